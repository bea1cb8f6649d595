set_option maxHeartbeats 4000000 in
set_option maxRecDepth 100000 in
theorem u_x_image_lo (l : Launch) (D : va_G) (cI cB cJ cZ cT : ClassId) (tz adK adV : Nat → Nat) {ad ai : Nat} {ws : va_W} (hs : ShX cI cB cJ cZ cT ad ai ws) (x0 : Int32) (hx0 : -2147483648 ≤ x0.toInt ∧ x0.toInt ≤ -1) : CoE l yX9_image wsX9_image ({ frames := 0, cells := 0, slots := 0, locals := 0 }) D (tyL cI cB cJ cZ cT) tz adK adV [.ref ad, .int x0] ws (fun u : va_W × Int32 => some (.int u.2)) (fun u => ShX cI cB cJ cZ cT ad ai u.1 ∧ u.2.toInt = 0) (fun u => u.1) 0 0 := by
  sorry
set_option maxHeartbeats 4000000 in
set_option maxRecDepth 100000 in
theorem u_x_image_hi (l : Launch) (D : va_G) (cI cB cJ cZ cT : ClassId) (tz adK adV : Nat → Nat) {ad ai : Nat} {ws : va_W} (hs : ShX cI cB cJ cZ cT ad ai ws) (x0 : Int32) (hx0 : 3 ≤ x0.toInt ∧ x0.toInt ≤ 2147483647) : CoE l yX9_image wsX9_image ({ frames := 0, cells := 0, slots := 0, locals := 0 }) D (tyL cI cB cJ cZ cT) tz adK adV [.ref ad, .int x0] ws (fun u : va_W × Int32 => some (.int u.2)) (fun u => ShX cI cB cJ cZ cT ad ai u.1 ∧ u.2.toInt = 0) (fun u => u.1) 0 0 := by
  sorry
set_option maxHeartbeats 4000000 in
set_option maxRecDepth 100000 in
theorem u_x_image_no (l : Launch) (D : va_G) (cI cB cJ cZ cT : ClassId) (tz adK adV : Nat → Nat) {ad ai : Nat} {ws : va_W} (hs : ShX cI cB cJ cZ cT ad ai ws) (x0 : Int32) (hx0 : 0 ≤ x0.toInt ∧ x0.toInt ≤ 2) {im : Nat → Option Nat} (him : im (Int32.toNatClampNeg x0) = none) : CoE l yX9_image wsX9_image ({ frames := 3, cells := 24, slots := 957, locals := 102 }) D (tyL cI cB cJ cZ cT) tz adK adV [.ref ad, .int x0] (ws ++ [IC cT ai im]) (fun u : (va_W × (Nat × va_W)) × Int32 => some (.int u.2)) (fun u => ShX cI cB cJ cZ cT ad ai u.1.1 ∧ ShT cI cB cJ cZ cT u.1.2.1 u.1.2.2 ∧ u.2.toInt = 1) (fun u => u.1.1 ++ (IC cT ai (va_up im (Int32.toNatClampNeg x0) (some u.1.2.1)) :: u.1.2.2)) 24 957 := by
  sorry
set_option maxHeartbeats 4000000 in
set_option maxRecDepth 100000 in
theorem u_x_image_yes (l : Launch) (D : va_G) (cI cB cJ cZ cT : ClassId) (tz adK adV : Nat → Nat) {ad ai jd : Nat} {ws G : va_W} (hs : ShX cI cB cJ cZ cT ad ai ws) (hG : ShT cI cB cJ cZ cT jd G) (x0 : Int32) (hx0 : 0 ≤ x0.toInt ∧ x0.toInt ≤ 2) {im : Nat → Option Nat} (him : im (Int32.toNatClampNeg x0) = some jd) : CoE l yX9_image wsX9_image ({ frames := 3, cells := 0, slots := 0, locals := 102 }) D (tyL cI cB cJ cZ cT) tz adK adV [.ref ad, .int x0] (ws ++ (IC cT ai im :: G)) (fun u : (va_W × (Nat × va_W)) × Int32 => some (.int u.2)) (fun u => ShX cI cB cJ cZ cT ad ai u.1.1 ∧ ShT cI cB cJ cZ cT jd u.1.2.2 ∧ u.2.toInt = 1) (fun u => u.1.1 ++ (IC cT ai im :: u.1.2.2)) 0 0 := by
  sorry
set_option maxHeartbeats 4000000 in
set_option maxRecDepth 100000 in
theorem u_x_again_lo (l : Launch) (D : va_G) (cI cB cJ cZ cT : ClassId) (tz adK adV : Nat → Nat) {ad ai : Nat} {ws : va_W} (hs : ShX cI cB cJ cZ cT ad ai ws) (x0 : Int32) (hx0 : -2147483648 ≤ x0.toInt ∧ x0.toInt ≤ -1) : CoE l yX9_again wsX9_again ({ frames := 0, cells := 0, slots := 0, locals := 0 }) D (tyL cI cB cJ cZ cT) tz adK adV [.ref ad, .int x0] ws (fun u : va_W × Int32 => some (.int u.2)) (fun u => ShX cI cB cJ cZ cT ad ai u.1 ∧ u.2.toInt = 0) (fun u => u.1) 0 0 := by
  sorry
set_option maxHeartbeats 4000000 in
set_option maxRecDepth 100000 in
theorem u_x_again_hi (l : Launch) (D : va_G) (cI cB cJ cZ cT : ClassId) (tz adK adV : Nat → Nat) {ad ai : Nat} {ws : va_W} (hs : ShX cI cB cJ cZ cT ad ai ws) (x0 : Int32) (hx0 : 3 ≤ x0.toInt ∧ x0.toInt ≤ 2147483647) : CoE l yX9_again wsX9_again ({ frames := 0, cells := 0, slots := 0, locals := 0 }) D (tyL cI cB cJ cZ cT) tz adK adV [.ref ad, .int x0] ws (fun u : va_W × Int32 => some (.int u.2)) (fun u => ShX cI cB cJ cZ cT ad ai u.1 ∧ u.2.toInt = 0) (fun u => u.1) 0 0 := by
  sorry
set_option maxHeartbeats 4000000 in
set_option maxRecDepth 100000 in
theorem u_x_again_no (l : Launch) (D : va_G) (cI cB cJ cZ cT : ClassId) (tz adK adV : Nat → Nat) {ad ai : Nat} {ws : va_W} (hs : ShX cI cB cJ cZ cT ad ai ws) (x0 : Int32) (hx0 : 0 ≤ x0.toInt ∧ x0.toInt ≤ 2) {im : Nat → Option Nat} (him : im (Int32.toNatClampNeg x0) = none) : CoE l yX9_again wsX9_again ({ frames := 0, cells := 0, slots := 0, locals := 0 }) D (tyL cI cB cJ cZ cT) tz adK adV [.ref ad, .int x0] (ws ++ [IC cT ai im]) (fun u : (va_W × (Nat × va_W)) × Int32 => some (.int u.2)) (fun u => ShX cI cB cJ cZ cT ad ai u.1.1 ∧ u.2.toInt = 0) (fun u => u.1.1 ++ [IC cT ai im]) 0 0 := by
  sorry
set_option maxHeartbeats 4000000 in
set_option maxRecDepth 100000 in
theorem u_x_again_yes (l : Launch) (D : va_G) (cI cB cJ cZ cT : ClassId) (tz adK adV : Nat → Nat) {ad ai jd : Nat} {ws G : va_W} (hs : ShX cI cB cJ cZ cT ad ai ws) (hG : ShT cI cB cJ cZ cT jd G) (x0 : Int32) (hx0 : 0 ≤ x0.toInt ∧ x0.toInt ≤ 2) {im : Nat → Option Nat} (him : im (Int32.toNatClampNeg x0) = some jd) : CoE l yX9_again wsX9_again ({ frames := 3, cells := 0, slots := 0, locals := 102 }) D (tyL cI cB cJ cZ cT) tz adK adV [.ref ad, .int x0] (ws ++ (IC cT ai im :: G)) (fun u : (va_W × (Nat × va_W)) × Int32 => some (.int u.2)) (fun u => ShX cI cB cJ cZ cT ad ai u.1.1 ∧ ShT cI cB cJ cZ cT jd u.1.2.2 ∧ u.2.toInt = 1) (fun u => u.1.1 ++ (IC cT ai im :: u.1.2.2)) 0 0 := by
  sorry

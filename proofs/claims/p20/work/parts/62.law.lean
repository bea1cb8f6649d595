theorem pm_1 (wi wm wx : va_W) : ((wi ++ wm) ++ wx).Perm (wm ++ (wi ++ wx)) := by
  rw [← List.append_assoc]
  exact List.perm_append_comm.append_right _
theorem pm_2 (wi wx wm : va_W) : ((wi ++ wx) ++ wm).Perm (wx ++ (wi ++ wm)) := pm_1 wi wx wm
theorem pm_3 {wi GG : va_W} {x : Nat × va_E} (wx wm : va_W) (h : wi.Perm (x :: GG)) : (wx ++ (wi ++ wm)).Perm ((wx ++ [x]) ++ (GG ++ wm)) := by
  rw [List.append_assoc]
  exact List.Perm.append_left _ (h.append_right _)
theorem pm_4 (GG wm wx : va_W) (x : Nat × va_E) (T : va_W) : ((GG ++ wm) ++ (wx ++ (x :: T))).Perm (wm ++ ((x :: (T ++ GG)) ++ wx)) := by
  have h1 : ((GG ++ wm) ++ (wx ++ (x :: T))).Perm ((wm ++ GG) ++ ((x :: T) ++ wx)) := List.Perm.append List.perm_append_comm List.perm_append_comm
  refine h1.trans ?_
  rw [List.append_assoc]
  refine List.Perm.append_left _ ?_
  rw [← List.append_assoc]
  exact (List.perm_append_comm (l₁ := GG) (l₂ := x :: T)).append_right _
theorem pm_5 (GG wm wx : va_W) (x : Nat × va_E) : ((GG ++ wm) ++ (wx ++ [x])).Perm (wm ++ ((x :: GG) ++ wx)) := by
  have h := pm_4 GG wm wx x []
  exact h
theorem pm_6 {wi Gk o : va_W} {x : Nat × va_E} (wx wm : va_W) (h : wi.Perm (x :: (Gk ++ o))) : (wx ++ (wi ++ wm)).Perm ((wx ++ (x :: Gk)) ++ (o ++ wm)) := by
  rw [List.append_assoc]
  refine List.Perm.append_left _ ?_
  rw [← List.append_assoc]
  exact h.append_right _
set_option maxHeartbeats 4000000 in
set_option maxRecDepth 100000 in
theorem law_0 {p : Program} {e : Env} {s : State} {m : MethodId} {below : List Frame} {meth : Method} {c : Code} (l : Launch) {b L : Nat} {xs : Nat → Int32} (hL : L ≤ 3072) (C0 : lw_At p s m meth c b L xs) {D : va_G} {cI cB cJ cZ cT : ClassId} (hK : KK D (tyL cI cB cJ cZ cT) s) {tz adK adV : Nat → Nat} (hE : EE tz adK adV (fun q : Nat => s.heap.size ≤ q) s s.heap) {ad ai bd : Nat} {TN : Nat → Int32} {TF M : Nat → Nat → Int32} {wx wi wm : va_W} (hsx : ShX cI cB cJ cZ cT ad ai TN TF wx) (hsi : ShI cI cB cJ cZ cT ai M wi) (hsm : ShM cI cB cJ cZ cT bd M wm) (hTL : TLg 0 TN TF M) {H : Heap} {locs : List Loc} (hP : va_P D vwCl (wx ++ (wi ++ wm)) H) (hD : va_D (fun q : Nat => s.heap.size ≤ q) (wx ++ (wi ++ wm))) (hS : va_S (fun q : Nat => s.heap.size ≤ q) s.heap H locs) {ls : Array Slot} {i : Int32} (hi : 0 ≤ i.toInt ∧ i.toInt + 6 ≤ L) (hl : lv_has ls 4 [(3, .int i), (2, .ref bd), (1, .ref ad), (0, .ref b)]) {cells slots : Nat} (hc : cells + 24 ≤ 600000) (hss : slots + 957 ≤ 7302250) (kk : ∀ (TN : Nat → Int32) (TF M : Nat → Nat → Int32) (wx wi wm : va_W) (H : Heap) (locs : List Loc) (ls : Array Slot), ShX cI cB cJ cZ cT ad ai TN TF wx → ShI cI cB cJ cZ cT ai M wi → ShM cI cB cJ cZ cT bd M wm → TLg 0 TN TF M → va_P D vwCl (wx ++ (wi ++ wm)) H → va_D (fun q : Nat => s.heap.size ≤ q) (wx ++ (wi ++ wm)) → va_S (fun q : Nat => s.heap.size ≤ q) s.heap H locs → lv_has ls 4 [(3, .int i), (2, .ref bd), (1, .ref ad), (0, .ref b)] → W p l e room_1 s m #[Value.ref b] below meth c H locs (cells + 24) (slots + 957) (lw_Z below #[Value.ref b] s) (F0 m 1241 ls [])) : W p l e room_1 s m #[Value.ref b] below meth c H locs (cells) (slots) (lw_Z below #[Value.ref b] s) (F0 m 148 ls []) := by
  obtain ⟨hx, hb, hr, hml, hown, hts0, hX, hbl, hlocks, hgv⟩ := id C0
  have hown : s.vm.findClass RL = some m.cls := hown
  have hts : ∀ w ∈ lw_tbl, w.before #[Value.ref b] s = true := hts0
  have hA : ∀ q : Nat, s.heap.size ≤ q → (fun q : Nat => s.heap.size ≤ q) q := fun _ h => h
  have hbA : ¬ (fun q : Nat => s.heap.size ≤ q) b := Nat.not_le.mpr hbl
  refine lv_aload_n hx hb dL_law_148 rfl (lv_at hl 2 rfl) ?_
  refine lv_aload_n hx hb dL_law_149 rfl (lv_at hl 3 rfl) ?_
  refine lv_iload_n hx hb dL_law_150 rfl (lv_at hl 0 rfl) ?_
  refine lv_iconst (v := 1) hx hb dL_law_151 (by decide) ?_
  refine lv_iadd hx hb dL_law_152 ?_
  refine lv_topi (fun z1 ez1 => ?_)
  have iz1 : z1.toInt = i.toInt + 1 := by rw [ez1]; exact (i_add (X := i.toInt) (Y := 1) rfl (by decide) (by have h8 := i_rng (i); have h9 := i_rng (1); omega) (by have h8 := i_rng (i); have h9 := i_rng (1); omega)).trans (by omega)
  refine va_sld hx hb hX hbl hbA hS (i_in (X := i.toInt + 1) iz1 (by omega) (by omega)) dL_law_153 ?_
  refine lv_topi (fun z2 ez2 => ?_)
  refine lv_aload_n hx hb dL_law_154 rfl (lv_at hl 3 rfl) ?_
  refine lv_iload_n hx hb dL_law_155 rfl (lv_at hl 0 rfl) ?_
  refine lv_iconst (v := 2) hx hb dL_law_156 (by decide) ?_
  refine lv_iadd hx hb dL_law_157 ?_
  refine lv_topi (fun z3 ez3 => ?_)
  have iz3 : z3.toInt = i.toInt + 2 := by rw [ez3]; exact (i_add (X := i.toInt) (Y := 2) rfl (by decide) (by have h8 := i_rng (i); have h9 := i_rng (2); omega) (by have h8 := i_rng (i); have h9 := i_rng (2); omega)).trans (by omega)
  refine va_sld hx hb hX hbl hbA hS (i_in (X := i.toInt + 2) iz3 (by omega) (by omega)) dL_law_158 ?_
  refine lv_topi (fun z4 ez4 => ?_)
  refine lv_aload_n hx hb dL_law_159 rfl (lv_at hl 3 rfl) ?_
  refine lv_iload_n hx hb dL_law_160 rfl (lv_at hl 0 rfl) ?_
  refine lv_iconst (v := 3) hx hb dL_law_161 (by decide) ?_
  refine lv_iadd hx hb dL_law_162 ?_
  refine lv_topi (fun z5 ez5 => ?_)
  have iz5 : z5.toInt = i.toInt + 3 := by rw [ez5]; exact (i_add (X := i.toInt) (Y := 3) rfl (by decide) (by have h8 := i_rng (i); have h9 := i_rng (3); omega) (by have h8 := i_rng (i); have h9 := i_rng (3); omega)).trans (by omega)
  refine va_sld hx hb hX hbl hbA hS (i_in (X := i.toInt + 3) iz5 (by omega) (by omega)) dL_law_163 ?_
  refine lv_topi (fun z6 ez6 => ?_)
  refine lv_aload_n hx hb dL_law_164 rfl (lv_at hl 3 rfl) ?_
  refine lv_iload_n hx hb dL_law_165 rfl (lv_at hl 0 rfl) ?_
  refine lv_iconst (v := 4) hx hb dL_law_166 (by decide) ?_
  refine lv_iadd hx hb dL_law_167 ?_
  refine lv_topi (fun z7 ez7 => ?_)
  have iz7 : z7.toInt = i.toInt + 4 := by rw [ez7]; exact (i_add (X := i.toInt) (Y := 4) rfl (by decide) (by have h8 := i_rng (i); have h9 := i_rng (4); omega) (by have h8 := i_rng (i); have h9 := i_rng (4); omega)).trans (by omega)
  refine va_sld hx hb hX hbl hbA hS (i_in (X := i.toInt + 4) iz7 (by omega) (by omega)) dL_law_168 ?_
  refine lv_topi (fun z8 ez8 => ?_)
  refine lv_aload_n hx hb dL_law_169 rfl (lv_at hl 3 rfl) ?_
  refine lv_iload_n hx hb dL_law_170 rfl (lv_at hl 0 rfl) ?_
  refine lv_iconst (v := 5) hx hb dL_law_171 (by decide) ?_
  refine lv_iadd hx hb dL_law_172 ?_
  refine lv_topi (fun z9 ez9 => ?_)
  have iz9 : z9.toInt = i.toInt + 5 := by rw [ez9]; exact (i_add (X := i.toInt) (Y := 5) rfl (by decide) (by have h8 := i_rng (i); have h9 := i_rng (5); omega) (by have h8 := i_rng (i); have h9 := i_rng (5); omega)).trans (by omega)
  refine va_sld hx hb hX hbl hbA hS (i_in (X := i.toInt + 5) iz9 (by omega) (by omega)) dL_law_173 ?_
  refine lv_topi (fun z10 ez10 => ?_)
  obtain ⟨fs, he⟩ := ShX_he hsx (wi ++ wm)
  refine doVA (n := 5) (As := [.int z2, .int z4, .int z6, .int z8, .int z10]) (rest := []) (wc := wx) (wr := wi ++ wm) hx hb hml hown hts hK hP hD hS hA he rfl hE (u_x_feed l D cI cB cJ cZ cT tz adK adV hsx z2 z4 z6 z8 z10) gL_law_X9_feed rfl rfl rfl (by decide +kernel) ⟨Nat.le_of_ble_eq_true rfl, Nat.le_of_ble_eq_true rfl⟩ hl.1 rfl rfl (Nat.le_of_ble_eq_true rfl) dL_law_174 ⟨show cells + 0 ≤ 600000 from by omega, show slots + 0 ≤ 7302250 from by omega⟩ (fun u H locs hw hP hD hS => ?_)
  have hrx := ShX_r hsx
  have hrm := ShM_r hsm
  obtain ⟨⟨wx, ⟨TN2, TF2⟩⟩, r11⟩ := u
  obtain ⟨hsx, hrel⟩ := hw
  have hsx : ShX cI cB cJ cZ cT ad ai TN2 TF2 wx := hsx
  have hSx : S_x_feed TN TF z2 z4 z6 z8 z10 TN2 TF2 r11 := hrel
  have hP := va_P_perm hP (pm_1 wi wm wx)
  have hD := va_D_perm hD (pm_1 wi wm wx)
  refine W.eq (g2 := F0 m 177 ls [.int r11]) rfl ?_
  refine lv_pop hx hb dL_law_177 rfl ?_
  refine lv_aload_n hx hb dL_law_178 rfl (lv_at hl 1 rfl) ?_
  refine lv_aload_n hx hb dL_law_179 rfl (lv_at hl 3 rfl) ?_
  refine lv_iload_n hx hb dL_law_180 rfl (lv_at hl 0 rfl) ?_
  refine lv_iconst (v := 1) hx hb dL_law_181 (by decide) ?_
  refine lv_iadd hx hb dL_law_182 ?_
  refine lv_topi (fun z12 ez12 => ?_)
  have iz12 : z12.toInt = i.toInt + 1 := by rw [ez12]; exact (i_add (X := i.toInt) (Y := 1) rfl (by decide) (by have h8 := i_rng (i); have h9 := i_rng (1); omega) (by have h8 := i_rng (i); have h9 := i_rng (1); omega)).trans (by omega)
  refine va_sld hx hb hX hbl hbA hS (i_in (X := i.toInt + 1) iz12 (by omega) (by omega)) dL_law_183 ?_
  refine lv_topi (fun z13 ez13 => ?_)
  refine lv_aload_n hx hb dL_law_184 rfl (lv_at hl 3 rfl) ?_
  refine lv_iload_n hx hb dL_law_185 rfl (lv_at hl 0 rfl) ?_
  refine lv_iconst (v := 2) hx hb dL_law_186 (by decide) ?_
  refine lv_iadd hx hb dL_law_187 ?_
  refine lv_topi (fun z14 ez14 => ?_)
  have iz14 : z14.toInt = i.toInt + 2 := by rw [ez14]; exact (i_add (X := i.toInt) (Y := 2) rfl (by decide) (by have h8 := i_rng (i); have h9 := i_rng (2); omega) (by have h8 := i_rng (i); have h9 := i_rng (2); omega)).trans (by omega)
  refine va_sld hx hb hX hbl hbA hS (i_in (X := i.toInt + 2) iz14 (by omega) (by omega)) dL_law_188 ?_
  refine lv_topi (fun z15 ez15 => ?_)
  refine lv_aload_n hx hb dL_law_189 rfl (lv_at hl 3 rfl) ?_
  refine lv_iload_n hx hb dL_law_190 rfl (lv_at hl 0 rfl) ?_
  refine lv_iconst (v := 3) hx hb dL_law_191 (by decide) ?_
  refine lv_iadd hx hb dL_law_192 ?_
  refine lv_topi (fun z16 ez16 => ?_)
  have iz16 : z16.toInt = i.toInt + 3 := by rw [ez16]; exact (i_add (X := i.toInt) (Y := 3) rfl (by decide) (by have h8 := i_rng (i); have h9 := i_rng (3); omega) (by have h8 := i_rng (i); have h9 := i_rng (3); omega)).trans (by omega)
  refine va_sld hx hb hX hbl hbA hS (i_in (X := i.toInt + 3) iz16 (by omega) (by omega)) dL_law_193 ?_
  refine lv_topi (fun z17 ez17 => ?_)
  refine lv_aload_n hx hb dL_law_194 rfl (lv_at hl 3 rfl) ?_
  refine lv_iload_n hx hb dL_law_195 rfl (lv_at hl 0 rfl) ?_
  refine lv_iconst (v := 4) hx hb dL_law_196 (by decide) ?_
  refine lv_iadd hx hb dL_law_197 ?_
  refine lv_topi (fun z18 ez18 => ?_)
  have iz18 : z18.toInt = i.toInt + 4 := by rw [ez18]; exact (i_add (X := i.toInt) (Y := 4) rfl (by decide) (by have h8 := i_rng (i); have h9 := i_rng (4); omega) (by have h8 := i_rng (i); have h9 := i_rng (4); omega)).trans (by omega)
  refine va_sld hx hb hX hbl hbA hS (i_in (X := i.toInt + 4) iz18 (by omega) (by omega)) dL_law_198 ?_
  refine lv_topi (fun z19 ez19 => ?_)
  refine lv_aload_n hx hb dL_law_199 rfl (lv_at hl 3 rfl) ?_
  refine lv_iload_n hx hb dL_law_200 rfl (lv_at hl 0 rfl) ?_
  refine lv_iconst (v := 5) hx hb dL_law_201 (by decide) ?_
  refine lv_iadd hx hb dL_law_202 ?_
  refine lv_topi (fun z20 ez20 => ?_)
  have iz20 : z20.toInt = i.toInt + 5 := by rw [ez20]; exact (i_add (X := i.toInt) (Y := 5) rfl (by decide) (by have h8 := i_rng (i); have h9 := i_rng (5); omega) (by have h8 := i_rng (i); have h9 := i_rng (5); omega)).trans (by omega)
  refine va_sld hx hb hX hbl hbA hS (i_in (X := i.toInt + 5) iz20 (by omega) (by omega)) dL_law_203 ?_
  refine lv_topi (fun z21 ez21 => ?_)
  obtain ⟨fs, he⟩ := ShM_he hsm (wi ++ wx)
  refine doVA (n := 5) (As := [.int z13, .int z15, .int z17, .int z19, .int z21]) (rest := []) (wc := wm) (wr := wi ++ wx) hx hb hml hown hts hK hP hD hS hA he rfl hE (u_y_feed l D cI cB cJ cZ cT tz adK adV hsm z13 z15 z17 z19 z21) gL_law_X10_feed rfl rfl rfl (by decide +kernel) ⟨Nat.le_of_ble_eq_true rfl, Nat.le_of_ble_eq_true rfl⟩ hl.1 rfl rfl (Nat.le_of_ble_eq_true rfl) dL_law_204 ⟨show cells + 0 + 0 ≤ 600000 from by omega, show slots + 0 + 0 ≤ 7302250 from by omega⟩ (fun u H locs hw hP hD hS => ?_)
  obtain ⟨⟨wm, M2⟩, r22⟩ := u
  obtain ⟨hsm, hrel⟩ := hw
  have hsm : ShM cI cB cJ cZ cT bd M2 wm := hsm
  have hs0 : z13 = z2 := by rw [ez13, ez2, ez12, ez1]
  have hs1 : z15 = z4 := by rw [ez15, ez4, ez14, ez3]
  have hs2 : z17 = z6 := by rw [ez17, ez6, ez16, ez5]
  have hs3 : z19 = z8 := by rw [ez19, ez8, ez18, ez7]
  have hs4 : z21 = z10 := by rw [ez21, ez10, ez20, ez9]
  have hSy : S_y_feed M z13 z15 z17 z19 z21 M2 r22 := hrel
  rw [hs0, hs1, hs2, hs3, hs4] at hSy
  obtain ⟨hrr, hTL, hsl, h8⟩ := feed_simg hTL hrx.1 hSx hSy
  have hsi := ShI_sl hsi hsl h8
  have hP := va_P_perm hP (pm_2 wi wx wm)
  have hD := va_D_perm hD (pm_2 wi wx wm)
  refine W.eq (g2 := F0 m 207 ls [.int r22]) rfl ?_
  refine lv_pop hx hb dL_law_207 rfl ?_
  refine lv_goto (tgt := 1241) hx hb dL_law_208 (by decide) ?_
  refine W.widen (k := cells + 24) (n := slots + 957) (by omega) (by omega) ?_
  exact kk TN2 TF2 M2 wx wi wm _ _ _ hsx hsi hsm hTL hP hD hS (lv_sub hl [0, 1, 2, 3] rfl)
set_option maxHeartbeats 4000000 in
set_option maxRecDepth 100000 in
theorem law_1 {p : Program} {e : Env} {s : State} {m : MethodId} {below : List Frame} {meth : Method} {c : Code} (l : Launch) {b L : Nat} {xs : Nat → Int32} (hL : L ≤ 3072) (C0 : lw_At p s m meth c b L xs) {D : va_G} {cI cB cJ cZ cT : ClassId} (hK : KK D (tyL cI cB cJ cZ cT) s) {tz adK adV : Nat → Nat} (hE : EE tz adK adV (fun q : Nat => s.heap.size ≤ q) s s.heap) {ad ai bd : Nat} {TN : Nat → Int32} {TF M : Nat → Nat → Int32} {wx wi wm : va_W} (hsx : ShX cI cB cJ cZ cT ad ai TN TF wx) (hsi : ShI cI cB cJ cZ cT ai M wi) (hsm : ShM cI cB cJ cZ cT bd M wm) (hTL : TLg 0 TN TF M) {H : Heap} {locs : List Loc} (hP : va_P D vwCl (wx ++ (wi ++ wm)) H) (hD : va_D (fun q : Nat => s.heap.size ≤ q) (wx ++ (wi ++ wm))) (hS : va_S (fun q : Nat => s.heap.size ≤ q) s.heap H locs) {ls : Array Slot} {i : Int32} (hi : 0 ≤ i.toInt ∧ i.toInt + 6 ≤ L) (hl : lv_has ls 4 [(3, .int i), (2, .ref bd), (1, .ref ad), (0, .ref b)]) {cells slots : Nat} (hc : cells + 24 ≤ 600000) (hss : slots + 957 ≤ 7302250) (kk : ∀ (TN : Nat → Int32) (TF M : Nat → Nat → Int32) (wx wi wm : va_W) (H : Heap) (locs : List Loc) (ls : Array Slot), ShX cI cB cJ cZ cT ad ai TN TF wx → ShI cI cB cJ cZ cT ai M wi → ShM cI cB cJ cZ cT bd M wm → TLg 0 TN TF M → va_P D vwCl (wx ++ (wi ++ wm)) H → va_D (fun q : Nat => s.heap.size ≤ q) (wx ++ (wi ++ wm)) → va_S (fun q : Nat => s.heap.size ≤ q) s.heap H locs → lv_has ls 4 [(3, .int i), (2, .ref bd), (1, .ref ad), (0, .ref b)] → W p l e room_1 s m #[Value.ref b] below meth c H locs (cells + 24) (slots + 957) (lw_Z below #[Value.ref b] s) (F0 m 1241 ls [])) : W p l e room_1 s m #[Value.ref b] below meth c H locs (cells) (slots) (lw_Z below #[Value.ref b] s) (F0 m 211 ls []) := by
  obtain ⟨hx, hb, hr, hml, hown, hts0, hX, hbl, hlocks, hgv⟩ := id C0
  have hown : s.vm.findClass RL = some m.cls := hown
  have hts : ∀ w ∈ lw_tbl, w.before #[Value.ref b] s = true := hts0
  have hA : ∀ q : Nat, s.heap.size ≤ q → (fun q : Nat => s.heap.size ≤ q) q := fun _ h => h
  have hbA : ¬ (fun q : Nat => s.heap.size ≤ q) b := Nat.not_le.mpr hbl
  refine lv_aload_n hx hb dL_law_211 rfl (lv_at hl 2 rfl) ?_
  refine lv_aload_n hx hb dL_law_212 rfl (lv_at hl 3 rfl) ?_
  refine lv_iload_n hx hb dL_law_213 rfl (lv_at hl 0 rfl) ?_
  refine lv_iconst (v := 1) hx hb dL_law_214 (by decide) ?_
  refine lv_iadd hx hb dL_law_215 ?_
  refine lv_topi (fun z1 ez1 => ?_)
  have iz1 : z1.toInt = i.toInt + 1 := by rw [ez1]; exact (i_add (X := i.toInt) (Y := 1) rfl (by decide) (by have h8 := i_rng (i); have h9 := i_rng (1); omega) (by have h8 := i_rng (i); have h9 := i_rng (1); omega)).trans (by omega)
  refine va_sld hx hb hX hbl hbA hS (i_in (X := i.toInt + 1) iz1 (by omega) (by omega)) dL_law_216 ?_
  refine lv_topi (fun z2 ez2 => ?_)
  obtain ⟨fs, he⟩ := ShX_he hsx (wi ++ wm)
  refine doVA (n := 1) (As := [.int z2]) (rest := []) (wc := wx) (wr := wi ++ wm) hx hb hml hown hts hK hP hD hS hA he rfl hE (u_x_end l D cI cB cJ cZ cT tz adK adV hsx z2) gL_law_X9_end rfl rfl rfl (by decide +kernel) ⟨Nat.le_of_ble_eq_true rfl, Nat.le_of_ble_eq_true rfl⟩ hl.1 rfl rfl (Nat.le_of_ble_eq_true rfl) dL_law_217 ⟨show cells + 0 ≤ 600000 from by omega, show slots + 0 ≤ 7302250 from by omega⟩ (fun u H locs hw hP hD hS => ?_)
  have hrx := ShX_r hsx
  have hrm := ShM_r hsm
  obtain ⟨⟨wx, ⟨TN2, TF2⟩⟩, r3⟩ := u
  obtain ⟨hsx, hrel⟩ := hw
  have hsx : ShX cI cB cJ cZ cT ad ai TN2 TF2 wx := hsx
  have hSx : S_x_end TN TF z2 TN2 TF2 r3 := hrel
  have hP := va_P_perm hP (pm_1 wi wm wx)
  have hD := va_D_perm hD (pm_1 wi wm wx)
  refine W.eq (g2 := F0 m 220 ls [.int r3]) rfl ?_
  refine lv_pop hx hb dL_law_220 rfl ?_
  refine lv_aload_n hx hb dL_law_221 rfl (lv_at hl 1 rfl) ?_
  refine lv_aload_n hx hb dL_law_222 rfl (lv_at hl 3 rfl) ?_
  refine lv_iload_n hx hb dL_law_223 rfl (lv_at hl 0 rfl) ?_
  refine lv_iconst (v := 1) hx hb dL_law_224 (by decide) ?_
  refine lv_iadd hx hb dL_law_225 ?_
  refine lv_topi (fun z4 ez4 => ?_)
  have iz4 : z4.toInt = i.toInt + 1 := by rw [ez4]; exact (i_add (X := i.toInt) (Y := 1) rfl (by decide) (by have h8 := i_rng (i); have h9 := i_rng (1); omega) (by have h8 := i_rng (i); have h9 := i_rng (1); omega)).trans (by omega)
  refine va_sld hx hb hX hbl hbA hS (i_in (X := i.toInt + 1) iz4 (by omega) (by omega)) dL_law_226 ?_
  refine lv_topi (fun z5 ez5 => ?_)
  obtain ⟨fs, he⟩ := ShM_he hsm (wi ++ wx)
  refine doVA (n := 1) (As := [.int z5]) (rest := []) (wc := wm) (wr := wi ++ wx) hx hb hml hown hts hK hP hD hS hA he rfl hE (u_y_end l D cI cB cJ cZ cT tz adK adV hsm z5) gL_law_X10_end rfl rfl rfl (by decide +kernel) ⟨Nat.le_of_ble_eq_true rfl, Nat.le_of_ble_eq_true rfl⟩ hl.1 rfl rfl (Nat.le_of_ble_eq_true rfl) dL_law_227 ⟨show cells + 0 + 0 ≤ 600000 from by omega, show slots + 0 + 0 ≤ 7302250 from by omega⟩ (fun u H locs hw hP hD hS => ?_)
  obtain ⟨⟨wm, M2⟩, r6⟩ := u
  obtain ⟨hsm, hrel⟩ := hw
  have hsm : ShM cI cB cJ cZ cT bd M2 wm := hsm
  have hs0 : z5 = z2 := by rw [ez5, ez2, ez4, ez1]
  have hSy : S_y_end M z5 M2 r6 := hrel
  rw [hs0] at hSy
  obtain ⟨hrr, hTL, hsl, h8⟩ := end_simg hTL hSx hSy
  have hsi := ShI_sl hsi hsl h8
  have hP := va_P_perm hP (pm_2 wi wx wm)
  have hD := va_D_perm hD (pm_2 wi wx wm)
  refine W.eq (g2 := F0 m 230 ls [.int r6]) rfl ?_
  refine lv_pop hx hb dL_law_230 rfl ?_
  refine lv_goto (tgt := 1241) hx hb dL_law_231 (by decide) ?_
  refine W.widen (k := cells + 24) (n := slots + 957) (by omega) (by omega) ?_
  exact kk TN2 TF2 M2 wx wi wm _ _ _ hsx hsi hsm hTL hP hD hS (lv_sub hl [0, 1, 2, 3] rfl)
set_option maxHeartbeats 4000000 in
set_option maxRecDepth 100000 in
theorem law_2 {p : Program} {e : Env} {s : State} {m : MethodId} {below : List Frame} {meth : Method} {c : Code} (l : Launch) {b L : Nat} {xs : Nat → Int32} (hL : L ≤ 3072) (C0 : lw_At p s m meth c b L xs) {D : va_G} {cI cB cJ cZ cT : ClassId} (hK : KK D (tyL cI cB cJ cZ cT) s) {tz adK adV : Nat → Nat} (hE : EE tz adK adV (fun q : Nat => s.heap.size ≤ q) s s.heap) {ad ai bd : Nat} {TN : Nat → Int32} {TF M : Nat → Nat → Int32} {wx wi wm : va_W} (hsx : ShX cI cB cJ cZ cT ad ai TN TF wx) (hsi : ShI cI cB cJ cZ cT ai M wi) (hsm : ShM cI cB cJ cZ cT bd M wm) (hTL : TLg 0 TN TF M) {H : Heap} {locs : List Loc} (hP : va_P D vwCl (wx ++ (wi ++ wm)) H) (hD : va_D (fun q : Nat => s.heap.size ≤ q) (wx ++ (wi ++ wm))) (hS : va_S (fun q : Nat => s.heap.size ≤ q) s.heap H locs) {ls : Array Slot} {i : Int32} (hi : 0 ≤ i.toInt ∧ i.toInt + 6 ≤ L) (hl : lv_has ls 4 [(3, .int i), (2, .ref bd), (1, .ref ad), (0, .ref b)]) {cells slots : Nat} (hc : cells + 24 ≤ 600000) (hss : slots + 957 ≤ 7302250) (kk : ∀ (TN : Nat → Int32) (TF M : Nat → Nat → Int32) (wx wi wm : va_W) (H : Heap) (locs : List Loc) (ls : Array Slot), ShX cI cB cJ cZ cT ad ai TN TF wx → ShI cI cB cJ cZ cT ai M wi → ShM cI cB cJ cZ cT bd M wm → TLg 0 TN TF M → va_P D vwCl (wx ++ (wi ++ wm)) H → va_D (fun q : Nat => s.heap.size ≤ q) (wx ++ (wi ++ wm)) → va_S (fun q : Nat => s.heap.size ≤ q) s.heap H locs → lv_has ls 4 [(3, .int i), (2, .ref bd), (1, .ref ad), (0, .ref b)] → W p l e room_1 s m #[Value.ref b] below meth c H locs (cells + 24) (slots + 957) (lw_Z below #[Value.ref b] s) (F0 m 1241 ls [])) : W p l e room_1 s m #[Value.ref b] below meth c H locs (cells) (slots) (lw_Z below #[Value.ref b] s) (F0 m 234 ls []) := by
  obtain ⟨hx, hb, hr, hml, hown, hts0, hX, hbl, hlocks, hgv⟩ := id C0
  have hown : s.vm.findClass RL = some m.cls := hown
  have hts : ∀ w ∈ lw_tbl, w.before #[Value.ref b] s = true := hts0
  have hA : ∀ q : Nat, s.heap.size ≤ q → (fun q : Nat => s.heap.size ≤ q) q := fun _ h => h
  have hbA : ¬ (fun q : Nat => s.heap.size ≤ q) b := Nat.not_le.mpr hbl
  refine lv_aload_n hx hb dL_law_234 rfl (lv_at hl 2 rfl) ?_
  refine lv_aload_n hx hb dL_law_235 rfl (lv_at hl 3 rfl) ?_
  refine lv_iload_n hx hb dL_law_236 rfl (lv_at hl 0 rfl) ?_
  refine lv_iconst (v := 1) hx hb dL_law_237 (by decide) ?_
  refine lv_iadd hx hb dL_law_238 ?_
  refine lv_topi (fun z1 ez1 => ?_)
  have iz1 : z1.toInt = i.toInt + 1 := by rw [ez1]; exact (i_add (X := i.toInt) (Y := 1) rfl (by decide) (by have h8 := i_rng (i); have h9 := i_rng (1); omega) (by have h8 := i_rng (i); have h9 := i_rng (1); omega)).trans (by omega)
  refine va_sld hx hb hX hbl hbA hS (i_in (X := i.toInt + 1) iz1 (by omega) (by omega)) dL_law_239 ?_
  refine lv_topi (fun z2 ez2 => ?_)
  refine lv_aload_n hx hb dL_law_240 rfl (lv_at hl 3 rfl) ?_
  refine lv_iload_n hx hb dL_law_241 rfl (lv_at hl 0 rfl) ?_
  refine lv_iconst (v := 2) hx hb dL_law_242 (by decide) ?_
  refine lv_iadd hx hb dL_law_243 ?_
  refine lv_topi (fun z3 ez3 => ?_)
  have iz3 : z3.toInt = i.toInt + 2 := by rw [ez3]; exact (i_add (X := i.toInt) (Y := 2) rfl (by decide) (by have h8 := i_rng (i); have h9 := i_rng (2); omega) (by have h8 := i_rng (i); have h9 := i_rng (2); omega)).trans (by omega)
  refine va_sld hx hb hX hbl hbA hS (i_in (X := i.toInt + 2) iz3 (by omega) (by omega)) dL_law_244 ?_
  refine lv_topi (fun z4 ez4 => ?_)
  obtain ⟨fs, he⟩ := ShX_he hsx (wi ++ wm)
  refine doVA (n := 2) (As := [.int z2, .int z4]) (rest := []) (wc := wx) (wr := wi ++ wm) hx hb hml hown hts hK hP hD hS hA he rfl hE (u_x_text l D cI cB cJ cZ cT tz adK adV hsx z2 z4) gL_law_X9_text rfl rfl rfl (by decide +kernel) ⟨Nat.le_of_ble_eq_true rfl, Nat.le_of_ble_eq_true rfl⟩ hl.1 rfl rfl (Nat.le_of_ble_eq_true rfl) dL_law_245 ⟨show cells + 0 ≤ 600000 from by omega, show slots + 0 ≤ 7302250 from by omega⟩ (fun u H locs hw hP hD hS => ?_)
  have hrx := ShX_r hsx
  have hrm := ShM_r hsm
  obtain ⟨⟨wx, ⟨TN2, TF2⟩⟩, r5⟩ := u
  obtain ⟨hsx, hrel⟩ := hw
  have hsx : ShX cI cB cJ cZ cT ad ai TN2 TF2 wx := hsx
  have hSx : S_x_text TN TF z2 z4 TN2 TF2 r5 := hrel
  have hP := va_P_perm hP (pm_1 wi wm wx)
  have hD := va_D_perm hD (pm_1 wi wm wx)
  refine W.eq (g2 := F0 m 248 ls [.int r5]) rfl ?_
  refine lv_pop hx hb dL_law_248 rfl ?_
  refine lv_aload_n hx hb dL_law_249 rfl (lv_at hl 1 rfl) ?_
  refine lv_aload_n hx hb dL_law_250 rfl (lv_at hl 3 rfl) ?_
  refine lv_iload_n hx hb dL_law_251 rfl (lv_at hl 0 rfl) ?_
  refine lv_iconst (v := 1) hx hb dL_law_252 (by decide) ?_
  refine lv_iadd hx hb dL_law_253 ?_
  refine lv_topi (fun z6 ez6 => ?_)
  have iz6 : z6.toInt = i.toInt + 1 := by rw [ez6]; exact (i_add (X := i.toInt) (Y := 1) rfl (by decide) (by have h8 := i_rng (i); have h9 := i_rng (1); omega) (by have h8 := i_rng (i); have h9 := i_rng (1); omega)).trans (by omega)
  refine va_sld hx hb hX hbl hbA hS (i_in (X := i.toInt + 1) iz6 (by omega) (by omega)) dL_law_254 ?_
  refine lv_topi (fun z7 ez7 => ?_)
  refine lv_aload_n hx hb dL_law_255 rfl (lv_at hl 3 rfl) ?_
  refine lv_iload_n hx hb dL_law_256 rfl (lv_at hl 0 rfl) ?_
  refine lv_iconst (v := 2) hx hb dL_law_257 (by decide) ?_
  refine lv_iadd hx hb dL_law_258 ?_
  refine lv_topi (fun z8 ez8 => ?_)
  have iz8 : z8.toInt = i.toInt + 2 := by rw [ez8]; exact (i_add (X := i.toInt) (Y := 2) rfl (by decide) (by have h8 := i_rng (i); have h9 := i_rng (2); omega) (by have h8 := i_rng (i); have h9 := i_rng (2); omega)).trans (by omega)
  refine va_sld hx hb hX hbl hbA hS (i_in (X := i.toInt + 2) iz8 (by omega) (by omega)) dL_law_259 ?_
  refine lv_topi (fun z9 ez9 => ?_)
  obtain ⟨fs, he⟩ := ShM_he hsm (wi ++ wx)
  refine doVA (n := 2) (As := [.int z7, .int z9]) (rest := []) (wc := wm) (wr := wi ++ wx) hx hb hml hown hts hK hP hD hS hA he rfl hE (u_y_text l D cI cB cJ cZ cT tz adK adV hsm z7 z9) gL_law_X10_text rfl rfl rfl (by decide +kernel) ⟨Nat.le_of_ble_eq_true rfl, Nat.le_of_ble_eq_true rfl⟩ hl.1 rfl rfl (Nat.le_of_ble_eq_true rfl) dL_law_260 ⟨show cells + 0 + 0 ≤ 600000 from by omega, show slots + 0 + 0 ≤ 7302250 from by omega⟩ (fun u H locs hw hP hD hS => ?_)
  obtain ⟨⟨wm, M2⟩, r10⟩ := u
  obtain ⟨hsm, hrel⟩ := hw
  have hsm : ShM cI cB cJ cZ cT bd M2 wm := hsm
  have hs0 : z7 = z2 := by rw [ez7, ez2, ez6, ez1]
  have hs1 : z9 = z4 := by rw [ez9, ez4, ez8, ez3]
  have hSy : S_y_text M z7 z9 M2 r10 := hrel
  rw [hs0, hs1] at hSy
  obtain ⟨hrr, hTL, hsl, h8⟩ := text_simg hTL hrx.1 hrx.2 hrm.1 hrm.2 hSx hSy
  have hsi := ShI_sl hsi hsl h8
  have hP := va_P_perm hP (pm_2 wi wx wm)
  have hD := va_D_perm hD (pm_2 wi wx wm)
  refine W.eq (g2 := F0 m 263 ls [.int r10]) rfl ?_
  refine lv_pop hx hb dL_law_263 rfl ?_
  refine lv_goto (tgt := 1241) hx hb dL_law_264 (by decide) ?_
  refine W.widen (k := cells + 24) (n := slots + 957) (by omega) (by omega) ?_
  exact kk TN2 TF2 M2 wx wi wm _ _ _ hsx hsi hsm hTL hP hD hS (lv_sub hl [0, 1, 2, 3] rfl)
set_option maxHeartbeats 4000000 in
set_option maxRecDepth 100000 in
theorem law_3 {p : Program} {e : Env} {s : State} {m : MethodId} {below : List Frame} {meth : Method} {c : Code} (l : Launch) {b L : Nat} {xs : Nat → Int32} (hL : L ≤ 3072) (C0 : lw_At p s m meth c b L xs) {D : va_G} {cI cB cJ cZ cT : ClassId} (hK : KK D (tyL cI cB cJ cZ cT) s) {tz adK adV : Nat → Nat} (hE : EE tz adK adV (fun q : Nat => s.heap.size ≤ q) s s.heap) {ad ai bd : Nat} {TN : Nat → Int32} {TF M : Nat → Nat → Int32} {wx wi wm : va_W} (hsx : ShX cI cB cJ cZ cT ad ai TN TF wx) (hsi : ShI cI cB cJ cZ cT ai M wi) (hsm : ShM cI cB cJ cZ cT bd M wm) (hTL : TLg 0 TN TF M) {H : Heap} {locs : List Loc} (hP : va_P D vwCl (wx ++ (wi ++ wm)) H) (hD : va_D (fun q : Nat => s.heap.size ≤ q) (wx ++ (wi ++ wm))) (hS : va_S (fun q : Nat => s.heap.size ≤ q) s.heap H locs) {ls : Array Slot} {i : Int32} (hi : 0 ≤ i.toInt ∧ i.toInt + 6 ≤ L) (hl : lv_has ls 4 [(3, .int i), (2, .ref bd), (1, .ref ad), (0, .ref b)]) {cells slots : Nat} (hc : cells + 24 ≤ 600000) (hss : slots + 957 ≤ 7302250) (kk : ∀ (TN : Nat → Int32) (TF M : Nat → Nat → Int32) (wx wi wm : va_W) (H : Heap) (locs : List Loc) (ls : Array Slot), ShX cI cB cJ cZ cT ad ai TN TF wx → ShI cI cB cJ cZ cT ai M wi → ShM cI cB cJ cZ cT bd M wm → TLg 0 TN TF M → va_P D vwCl (wx ++ (wi ++ wm)) H → va_D (fun q : Nat => s.heap.size ≤ q) (wx ++ (wi ++ wm)) → va_S (fun q : Nat => s.heap.size ≤ q) s.heap H locs → lv_has ls 4 [(3, .int i), (2, .ref bd), (1, .ref ad), (0, .ref b)] → W p l e room_1 s m #[Value.ref b] below meth c H locs (cells + 24) (slots + 957) (lw_Z below #[Value.ref b] s) (F0 m 1241 ls [])) : W p l e room_1 s m #[Value.ref b] below meth c H locs (cells) (slots) (lw_Z below #[Value.ref b] s) (F0 m 267 ls []) := by
  obtain ⟨hx, hb, hr, hml, hown, hts0, hX, hbl, hlocks, hgv⟩ := id C0
  have hown : s.vm.findClass RL = some m.cls := hown
  have hts : ∀ w ∈ lw_tbl, w.before #[Value.ref b] s = true := hts0
  have hA : ∀ q : Nat, s.heap.size ≤ q → (fun q : Nat => s.heap.size ≤ q) q := fun _ h => h
  have hbA : ¬ (fun q : Nat => s.heap.size ≤ q) b := Nat.not_le.mpr hbl
  refine lv_aload_n hx hb dL_law_267 rfl (lv_at hl 2 rfl) ?_
  refine lv_aload_n hx hb dL_law_268 rfl (lv_at hl 3 rfl) ?_
  refine lv_iload_n hx hb dL_law_269 rfl (lv_at hl 0 rfl) ?_
  refine lv_iconst (v := 1) hx hb dL_law_270 (by decide) ?_
  refine lv_iadd hx hb dL_law_271 ?_
  refine lv_topi (fun z1 ez1 => ?_)
  have iz1 : z1.toInt = i.toInt + 1 := by rw [ez1]; exact (i_add (X := i.toInt) (Y := 1) rfl (by decide) (by have h8 := i_rng (i); have h9 := i_rng (1); omega) (by have h8 := i_rng (i); have h9 := i_rng (1); omega)).trans (by omega)
  refine va_sld hx hb hX hbl hbA hS (i_in (X := i.toInt + 1) iz1 (by omega) (by omega)) dL_law_272 ?_
  refine lv_topi (fun z2 ez2 => ?_)
  obtain ⟨fs, he⟩ := ShX_he hsx (wi ++ wm)
  refine doVA (n := 1) (As := [.int z2]) (rest := []) (wc := wx) (wr := wi ++ wm) hx hb hml hown hts hK hP hD hS hA he rfl hE (u_x_fault l D cI cB cJ cZ cT tz adK adV hsx z2) gL_law_X9_fault rfl rfl rfl (by decide +kernel) ⟨Nat.le_of_ble_eq_true rfl, Nat.le_of_ble_eq_true rfl⟩ hl.1 rfl rfl (Nat.le_of_ble_eq_true rfl) dL_law_273 ⟨show cells + 0 ≤ 600000 from by omega, show slots + 0 ≤ 7302250 from by omega⟩ (fun u H locs hw hP hD hS => ?_)
  have hrx := ShX_r hsx
  have hrm := ShM_r hsm
  obtain ⟨⟨wx, ⟨TN2, TF2⟩⟩, r3⟩ := u
  obtain ⟨hsx, hrel⟩ := hw
  have hsx : ShX cI cB cJ cZ cT ad ai TN2 TF2 wx := hsx
  have hSx : S_x_fault TN TF z2 r3 := hrel.1
  have e1 : TN = TN2 := hrel.2.1.symm
  have e2 : TF = TF2 := hrel.2.2.symm
  subst e1
  subst e2
  have hP := va_P_perm hP (pm_1 wi wm wx)
  have hD := va_D_perm hD (pm_1 wi wm wx)
  refine W.eq (g2 := F0 m 276 ls [.int r3]) rfl ?_
  refine lv_pop hx hb dL_law_276 rfl ?_
  refine lv_aload_n hx hb dL_law_277 rfl (lv_at hl 1 rfl) ?_
  refine lv_aload_n hx hb dL_law_278 rfl (lv_at hl 3 rfl) ?_
  refine lv_iload_n hx hb dL_law_279 rfl (lv_at hl 0 rfl) ?_
  refine lv_iconst (v := 1) hx hb dL_law_280 (by decide) ?_
  refine lv_iadd hx hb dL_law_281 ?_
  refine lv_topi (fun z4 ez4 => ?_)
  have iz4 : z4.toInt = i.toInt + 1 := by rw [ez4]; exact (i_add (X := i.toInt) (Y := 1) rfl (by decide) (by have h8 := i_rng (i); have h9 := i_rng (1); omega) (by have h8 := i_rng (i); have h9 := i_rng (1); omega)).trans (by omega)
  refine va_sld hx hb hX hbl hbA hS (i_in (X := i.toInt + 1) iz4 (by omega) (by omega)) dL_law_282 ?_
  refine lv_topi (fun z5 ez5 => ?_)
  obtain ⟨fs, he⟩ := ShM_he hsm (wi ++ wx)
  refine doVA (n := 1) (As := [.int z5]) (rest := []) (wc := wm) (wr := wi ++ wx) hx hb hml hown hts hK hP hD hS hA he rfl hE (u_y_fault l D cI cB cJ cZ cT tz adK adV hsm z5) gL_law_X10_fault rfl rfl rfl (by decide +kernel) ⟨Nat.le_of_ble_eq_true rfl, Nat.le_of_ble_eq_true rfl⟩ hl.1 rfl rfl (Nat.le_of_ble_eq_true rfl) dL_law_283 ⟨show cells + 0 + 0 ≤ 600000 from by omega, show slots + 0 + 0 ≤ 7302250 from by omega⟩ (fun u H locs hw hP hD hS => ?_)
  obtain ⟨⟨wm, M2⟩, r6⟩ := u
  obtain ⟨hsm, hrel⟩ := hw
  have hsm : ShM cI cB cJ cZ cT bd M2 wm := hsm
  have hs0 : z5 = z2 := by rw [ez5, ez2, ez4, ez1]
  have hSy : S_y_fault M z5 r6 := hrel.1
  rw [hs0] at hSy
  have e1 : M = M2 := hrel.2.symm
  subst e1
  have hrr := fault_sim hTL.1 hSx hSy
  have hP := va_P_perm hP (pm_2 wi wx wm)
  have hD := va_D_perm hD (pm_2 wi wx wm)
  refine W.eq (g2 := F0 m 286 ls [.int r6]) rfl ?_
  refine lv_pop hx hb dL_law_286 rfl ?_
  refine lv_goto (tgt := 1241) hx hb dL_law_287 (by decide) ?_
  refine W.widen (k := cells + 24) (n := slots + 957) (by omega) (by omega) ?_
  exact kk TN TF M wx wi wm _ _ _ hsx hsi hsm hTL hP hD hS (lv_sub hl [0, 1, 2, 3] rfl)
set_option maxHeartbeats 4000000 in
set_option maxRecDepth 100000 in
theorem law_4 {p : Program} {e : Env} {s : State} {m : MethodId} {below : List Frame} {meth : Method} {c : Code} (l : Launch) {b L : Nat} {xs : Nat → Int32} (hL : L ≤ 3072) (C0 : lw_At p s m meth c b L xs) {D : va_G} {cI cB cJ cZ cT : ClassId} (hK : KK D (tyL cI cB cJ cZ cT) s) {tz adK adV : Nat → Nat} (hE : EE tz adK adV (fun q : Nat => s.heap.size ≤ q) s s.heap) {ad ai bd : Nat} {TN : Nat → Int32} {TF M : Nat → Nat → Int32} {wx wi wm : va_W} (hsx : ShX cI cB cJ cZ cT ad ai TN TF wx) (hsi : ShI cI cB cJ cZ cT ai M wi) (hsm : ShM cI cB cJ cZ cT bd M wm) (hTL : TLg 0 TN TF M) {H : Heap} {locs : List Loc} (hP : va_P D vwCl (wx ++ (wi ++ wm)) H) (hD : va_D (fun q : Nat => s.heap.size ≤ q) (wx ++ (wi ++ wm))) (hS : va_S (fun q : Nat => s.heap.size ≤ q) s.heap H locs) {ls : Array Slot} {i : Int32} (hi : 0 ≤ i.toInt ∧ i.toInt + 6 ≤ L) (hl : lv_has ls 4 [(3, .int i), (2, .ref bd), (1, .ref ad), (0, .ref b)]) {cells slots : Nat} (hc : cells + 24 ≤ 600000) (hss : slots + 957 ≤ 7302250) (kk : ∀ (TN : Nat → Int32) (TF M : Nat → Nat → Int32) (wx wi wm : va_W) (H : Heap) (locs : List Loc) (ls : Array Slot), ShX cI cB cJ cZ cT ad ai TN TF wx → ShI cI cB cJ cZ cT ai M wi → ShM cI cB cJ cZ cT bd M wm → TLg 0 TN TF M → va_P D vwCl (wx ++ (wi ++ wm)) H → va_D (fun q : Nat => s.heap.size ≤ q) (wx ++ (wi ++ wm)) → va_S (fun q : Nat => s.heap.size ≤ q) s.heap H locs → lv_has ls 4 [(3, .int i), (2, .ref bd), (1, .ref ad), (0, .ref b)] → W p l e room_1 s m #[Value.ref b] below meth c H locs (cells + 24) (slots + 957) (lw_Z below #[Value.ref b] s) (F0 m 1241 ls [])) : W p l e room_1 s m #[Value.ref b] below meth c H locs (cells) (slots) (lw_Z below #[Value.ref b] s) (F0 m 290 ls []) := by
  obtain ⟨hx, hb, hr, hml, hown, hts0, hX, hbl, hlocks, hgv⟩ := id C0
  have hown : s.vm.findClass RL = some m.cls := hown
  have hts : ∀ w ∈ lw_tbl, w.before #[Value.ref b] s = true := hts0
  have hA : ∀ q : Nat, s.heap.size ≤ q → (fun q : Nat => s.heap.size ≤ q) q := fun _ h => h
  have hbA : ¬ (fun q : Nat => s.heap.size ≤ q) b := Nat.not_le.mpr hbl
  refine lv_aload_n hx hb dL_law_290 rfl (lv_at hl 2 rfl) ?_
  refine lv_aload_n hx hb dL_law_291 rfl (lv_at hl 3 rfl) ?_
  refine lv_iload_n hx hb dL_law_292 rfl (lv_at hl 0 rfl) ?_
  refine lv_iconst (v := 1) hx hb dL_law_293 (by decide) ?_
  refine lv_iadd hx hb dL_law_294 ?_
  refine lv_topi (fun z1 ez1 => ?_)
  have iz1 : z1.toInt = i.toInt + 1 := by rw [ez1]; exact (i_add (X := i.toInt) (Y := 1) rfl (by decide) (by have h8 := i_rng (i); have h9 := i_rng (1); omega) (by have h8 := i_rng (i); have h9 := i_rng (1); omega)).trans (by omega)
  refine va_sld hx hb hX hbl hbA hS (i_in (X := i.toInt + 1) iz1 (by omega) (by omega)) dL_law_295 ?_
  refine lv_topi (fun z2 ez2 => ?_)
  refine lv_aload_n hx hb dL_law_296 rfl (lv_at hl 3 rfl) ?_
  refine lv_iload_n hx hb dL_law_297 rfl (lv_at hl 0 rfl) ?_
  refine lv_iconst (v := 2) hx hb dL_law_298 (by decide) ?_
  refine lv_iadd hx hb dL_law_299 ?_
  refine lv_topi (fun z3 ez3 => ?_)
  have iz3 : z3.toInt = i.toInt + 2 := by rw [ez3]; exact (i_add (X := i.toInt) (Y := 2) rfl (by decide) (by have h8 := i_rng (i); have h9 := i_rng (2); omega) (by have h8 := i_rng (i); have h9 := i_rng (2); omega)).trans (by omega)
  refine va_sld hx hb hX hbl hbA hS (i_in (X := i.toInt + 2) iz3 (by omega) (by omega)) dL_law_300 ?_
  refine lv_topi (fun z4 ez4 => ?_)
  obtain ⟨fs, he⟩ := ShX_he hsx (wi ++ wm)
  refine doVA (n := 2) (As := [.int z2, .int z4]) (rest := []) (wc := wx) (wr := wi ++ wm) hx hb hml hown hts hK hP hD hS hA he rfl hE (u_x_theatre l D cI cB cJ cZ cT tz adK adV hsx z2 z4) gL_law_X9_theatre rfl rfl rfl (by decide +kernel) ⟨Nat.le_of_ble_eq_true rfl, Nat.le_of_ble_eq_true rfl⟩ hl.1 rfl rfl (Nat.le_of_ble_eq_true rfl) dL_law_301 ⟨show cells + 0 ≤ 600000 from by omega, show slots + 0 ≤ 7302250 from by omega⟩ (fun u H locs hw hP hD hS => ?_)
  have hrx := ShX_r hsx
  have hrm := ShM_r hsm
  obtain ⟨⟨wx, ⟨TN2, TF2⟩⟩, r5⟩ := u
  obtain ⟨hsx, hrel⟩ := hw
  have hsx : ShX cI cB cJ cZ cT ad ai TN2 TF2 wx := hsx
  have hSx : S_x_theatre TN TF z2 z4 r5 := hrel.1
  have e1 : TN = TN2 := hrel.2.1.symm
  have e2 : TF = TF2 := hrel.2.2.symm
  subst e1
  subst e2
  have hP := va_P_perm hP (pm_1 wi wm wx)
  have hD := va_D_perm hD (pm_1 wi wm wx)
  refine W.eq (g2 := F0 m 304 ls [.int r5]) rfl ?_
  refine lv_pop hx hb dL_law_304 rfl ?_
  refine lv_aload_n hx hb dL_law_305 rfl (lv_at hl 1 rfl) ?_
  refine lv_aload_n hx hb dL_law_306 rfl (lv_at hl 3 rfl) ?_
  refine lv_iload_n hx hb dL_law_307 rfl (lv_at hl 0 rfl) ?_
  refine lv_iconst (v := 1) hx hb dL_law_308 (by decide) ?_
  refine lv_iadd hx hb dL_law_309 ?_
  refine lv_topi (fun z6 ez6 => ?_)
  have iz6 : z6.toInt = i.toInt + 1 := by rw [ez6]; exact (i_add (X := i.toInt) (Y := 1) rfl (by decide) (by have h8 := i_rng (i); have h9 := i_rng (1); omega) (by have h8 := i_rng (i); have h9 := i_rng (1); omega)).trans (by omega)
  refine va_sld hx hb hX hbl hbA hS (i_in (X := i.toInt + 1) iz6 (by omega) (by omega)) dL_law_310 ?_
  refine lv_topi (fun z7 ez7 => ?_)
  refine lv_aload_n hx hb dL_law_311 rfl (lv_at hl 3 rfl) ?_
  refine lv_iload_n hx hb dL_law_312 rfl (lv_at hl 0 rfl) ?_
  refine lv_iconst (v := 2) hx hb dL_law_313 (by decide) ?_
  refine lv_iadd hx hb dL_law_314 ?_
  refine lv_topi (fun z8 ez8 => ?_)
  have iz8 : z8.toInt = i.toInt + 2 := by rw [ez8]; exact (i_add (X := i.toInt) (Y := 2) rfl (by decide) (by have h8 := i_rng (i); have h9 := i_rng (2); omega) (by have h8 := i_rng (i); have h9 := i_rng (2); omega)).trans (by omega)
  refine va_sld hx hb hX hbl hbA hS (i_in (X := i.toInt + 2) iz8 (by omega) (by omega)) dL_law_315 ?_
  refine lv_topi (fun z9 ez9 => ?_)
  obtain ⟨fs, he⟩ := ShM_he hsm (wi ++ wx)
  refine doVA (n := 2) (As := [.int z7, .int z9]) (rest := []) (wc := wm) (wr := wi ++ wx) hx hb hml hown hts hK hP hD hS hA he rfl hE (u_y_theatre l D cI cB cJ cZ cT tz adK adV hsm z7 z9) gL_law_X10_theatre rfl rfl rfl (by decide +kernel) ⟨Nat.le_of_ble_eq_true rfl, Nat.le_of_ble_eq_true rfl⟩ hl.1 rfl rfl (Nat.le_of_ble_eq_true rfl) dL_law_316 ⟨show cells + 0 + 0 ≤ 600000 from by omega, show slots + 0 + 0 ≤ 7302250 from by omega⟩ (fun u H locs hw hP hD hS => ?_)
  obtain ⟨⟨wm, M2⟩, r10⟩ := u
  obtain ⟨hsm, hrel⟩ := hw
  have hsm : ShM cI cB cJ cZ cT bd M2 wm := hsm
  have hs0 : z7 = z2 := by rw [ez7, ez2, ez6, ez1]
  have hs1 : z9 = z4 := by rw [ez9, ez4, ez8, ez3]
  have hSy : S_y_theatre M z7 z9 r10 := hrel.1
  rw [hs0, hs1] at hSy
  have e1 : M = M2 := hrel.2.symm
  subst e1
  have hrr := theatre_sim hTL.1 hrx.2.1 hSx hSy
  have hP := va_P_perm hP (pm_2 wi wx wm)
  have hD := va_D_perm hD (pm_2 wi wx wm)
  refine W.eq (g2 := F0 m 319 ls [.int r10]) rfl ?_
  refine lv_pop hx hb dL_law_319 rfl ?_
  refine lv_goto (tgt := 1241) hx hb dL_law_320 (by decide) ?_
  refine W.widen (k := cells + 24) (n := slots + 957) (by omega) (by omega) ?_
  exact kk TN TF M wx wi wm _ _ _ hsx hsi hsm hTL hP hD hS (lv_sub hl [0, 1, 2, 3] rfl)
set_option maxHeartbeats 4000000 in
set_option maxRecDepth 100000 in
theorem law_5 {p : Program} {e : Env} {s : State} {m : MethodId} {below : List Frame} {meth : Method} {c : Code} (l : Launch) {b L : Nat} {xs : Nat → Int32} (hL : L ≤ 3072) (C0 : lw_At p s m meth c b L xs) {D : va_G} {cI cB cJ cZ cT : ClassId} (hK : KK D (tyL cI cB cJ cZ cT) s) {tz adK adV : Nat → Nat} (hE : EE tz adK adV (fun q : Nat => s.heap.size ≤ q) s s.heap) {ad ai bd : Nat} {TN : Nat → Int32} {TF M : Nat → Nat → Int32} {wx wi wm : va_W} (hsx : ShX cI cB cJ cZ cT ad ai TN TF wx) (hsi : ShI cI cB cJ cZ cT ai M wi) (hsm : ShM cI cB cJ cZ cT bd M wm) (hTL : TLg 0 TN TF M) {H : Heap} {locs : List Loc} (hP : va_P D vwCl (wx ++ (wi ++ wm)) H) (hD : va_D (fun q : Nat => s.heap.size ≤ q) (wx ++ (wi ++ wm))) (hS : va_S (fun q : Nat => s.heap.size ≤ q) s.heap H locs) {ls : Array Slot} {i : Int32} (hi : 0 ≤ i.toInt ∧ i.toInt + 6 ≤ L) (hl : lv_has ls 4 [(3, .int i), (2, .ref bd), (1, .ref ad), (0, .ref b)]) {cells slots : Nat} (hc : cells + 24 ≤ 600000) (hss : slots + 957 ≤ 7302250) (kk : ∀ (TN : Nat → Int32) (TF M : Nat → Nat → Int32) (wx wi wm : va_W) (H : Heap) (locs : List Loc) (ls : Array Slot), ShX cI cB cJ cZ cT ad ai TN TF wx → ShI cI cB cJ cZ cT ai M wi → ShM cI cB cJ cZ cT bd M wm → TLg 0 TN TF M → va_P D vwCl (wx ++ (wi ++ wm)) H → va_D (fun q : Nat => s.heap.size ≤ q) (wx ++ (wi ++ wm)) → va_S (fun q : Nat => s.heap.size ≤ q) s.heap H locs → lv_has ls 4 [(3, .int i), (2, .ref bd), (1, .ref ad), (0, .ref b)] → W p l e room_1 s m #[Value.ref b] below meth c H locs (cells + 24) (slots + 957) (lw_Z below #[Value.ref b] s) (F0 m 1241 ls [])) : W p l e room_1 s m #[Value.ref b] below meth c H locs (cells) (slots) (lw_Z below #[Value.ref b] s) (F0 m 323 ls []) := by
  obtain ⟨hx, hb, hr, hml, hown, hts0, hX, hbl, hlocks, hgv⟩ := id C0
  have hown : s.vm.findClass RL = some m.cls := hown
  have hts : ∀ w ∈ lw_tbl, w.before #[Value.ref b] s = true := hts0
  have hA : ∀ q : Nat, s.heap.size ≤ q → (fun q : Nat => s.heap.size ≤ q) q := fun _ h => h
  have hbA : ¬ (fun q : Nat => s.heap.size ≤ q) b := Nat.not_le.mpr hbl
  refine lv_aload_n hx hb dL_law_323 rfl (lv_at hl 2 rfl) ?_
  refine lv_aload_n hx hb dL_law_324 rfl (lv_at hl 3 rfl) ?_
  refine lv_iload_n hx hb dL_law_325 rfl (lv_at hl 0 rfl) ?_
  refine lv_iconst (v := 1) hx hb dL_law_326 (by decide) ?_
  refine lv_iadd hx hb dL_law_327 ?_
  refine lv_topi (fun z1 ez1 => ?_)
  have iz1 : z1.toInt = i.toInt + 1 := by rw [ez1]; exact (i_add (X := i.toInt) (Y := 1) rfl (by decide) (by have h8 := i_rng (i); have h9 := i_rng (1); omega) (by have h8 := i_rng (i); have h9 := i_rng (1); omega)).trans (by omega)
  refine va_sld hx hb hX hbl hbA hS (i_in (X := i.toInt + 1) iz1 (by omega) (by omega)) dL_law_328 ?_
  refine lv_topi (fun z2 ez2 => ?_)
  refine lv_aload_n hx hb dL_law_329 rfl (lv_at hl 3 rfl) ?_
  refine lv_iload_n hx hb dL_law_330 rfl (lv_at hl 0 rfl) ?_
  refine lv_iconst (v := 2) hx hb dL_law_331 (by decide) ?_
  refine lv_iadd hx hb dL_law_332 ?_
  refine lv_topi (fun z3 ez3 => ?_)
  have iz3 : z3.toInt = i.toInt + 2 := by rw [ez3]; exact (i_add (X := i.toInt) (Y := 2) rfl (by decide) (by have h8 := i_rng (i); have h9 := i_rng (2); omega) (by have h8 := i_rng (i); have h9 := i_rng (2); omega)).trans (by omega)
  refine va_sld hx hb hX hbl hbA hS (i_in (X := i.toInt + 2) iz3 (by omega) (by omega)) dL_law_333 ?_
  refine lv_topi (fun z4 ez4 => ?_)
  refine lv_aload_n hx hb dL_law_334 rfl (lv_at hl 3 rfl) ?_
  refine lv_iload_n hx hb dL_law_335 rfl (lv_at hl 0 rfl) ?_
  refine lv_iconst (v := 3) hx hb dL_law_336 (by decide) ?_
  refine lv_iadd hx hb dL_law_337 ?_
  refine lv_topi (fun z5 ez5 => ?_)
  have iz5 : z5.toInt = i.toInt + 3 := by rw [ez5]; exact (i_add (X := i.toInt) (Y := 3) rfl (by decide) (by have h8 := i_rng (i); have h9 := i_rng (3); omega) (by have h8 := i_rng (i); have h9 := i_rng (3); omega)).trans (by omega)
  refine va_sld hx hb hX hbl hbA hS (i_in (X := i.toInt + 3) iz5 (by omega) (by omega)) dL_law_338 ?_
  refine lv_topi (fun z6 ez6 => ?_)
  obtain ⟨fs, he⟩ := ShX_he hsx (wi ++ wm)
  refine doVA (n := 3) (As := [.int z2, .int z4, .int z6]) (rest := []) (wc := wx) (wr := wi ++ wm) hx hb hml hown hts hK hP hD hS hA he rfl hE (u_x_deed l D cI cB cJ cZ cT tz adK adV hsx z2 z4 z6) gL_law_X9_deed rfl rfl rfl (by decide +kernel) ⟨Nat.le_of_ble_eq_true rfl, Nat.le_of_ble_eq_true rfl⟩ hl.1 rfl rfl (Nat.le_of_ble_eq_true rfl) dL_law_339 ⟨show cells + 0 ≤ 600000 from by omega, show slots + 0 ≤ 7302250 from by omega⟩ (fun u H locs hw hP hD hS => ?_)
  have hrx := ShX_r hsx
  have hrm := ShM_r hsm
  obtain ⟨⟨wx, ⟨TN2, TF2⟩⟩, r7⟩ := u
  obtain ⟨hsx, hrel⟩ := hw
  have hsx : ShX cI cB cJ cZ cT ad ai TN2 TF2 wx := hsx
  have hSx : S_x_deed TN TF z2 z4 z6 r7 := hrel.1
  have e1 : TN = TN2 := hrel.2.1.symm
  have e2 : TF = TF2 := hrel.2.2.symm
  subst e1
  subst e2
  have hP := va_P_perm hP (pm_1 wi wm wx)
  have hD := va_D_perm hD (pm_1 wi wm wx)
  refine W.eq (g2 := F0 m 342 ls [.int r7]) rfl ?_
  refine lv_pop hx hb dL_law_342 rfl ?_
  refine lv_aload_n hx hb dL_law_343 rfl (lv_at hl 1 rfl) ?_
  refine lv_aload_n hx hb dL_law_344 rfl (lv_at hl 3 rfl) ?_
  refine lv_iload_n hx hb dL_law_345 rfl (lv_at hl 0 rfl) ?_
  refine lv_iconst (v := 1) hx hb dL_law_346 (by decide) ?_
  refine lv_iadd hx hb dL_law_347 ?_
  refine lv_topi (fun z8 ez8 => ?_)
  have iz8 : z8.toInt = i.toInt + 1 := by rw [ez8]; exact (i_add (X := i.toInt) (Y := 1) rfl (by decide) (by have h8 := i_rng (i); have h9 := i_rng (1); omega) (by have h8 := i_rng (i); have h9 := i_rng (1); omega)).trans (by omega)
  refine va_sld hx hb hX hbl hbA hS (i_in (X := i.toInt + 1) iz8 (by omega) (by omega)) dL_law_348 ?_
  refine lv_topi (fun z9 ez9 => ?_)
  refine lv_aload_n hx hb dL_law_349 rfl (lv_at hl 3 rfl) ?_
  refine lv_iload_n hx hb dL_law_350 rfl (lv_at hl 0 rfl) ?_
  refine lv_iconst (v := 2) hx hb dL_law_351 (by decide) ?_
  refine lv_iadd hx hb dL_law_352 ?_
  refine lv_topi (fun z10 ez10 => ?_)
  have iz10 : z10.toInt = i.toInt + 2 := by rw [ez10]; exact (i_add (X := i.toInt) (Y := 2) rfl (by decide) (by have h8 := i_rng (i); have h9 := i_rng (2); omega) (by have h8 := i_rng (i); have h9 := i_rng (2); omega)).trans (by omega)
  refine va_sld hx hb hX hbl hbA hS (i_in (X := i.toInt + 2) iz10 (by omega) (by omega)) dL_law_353 ?_
  refine lv_topi (fun z11 ez11 => ?_)
  refine lv_aload_n hx hb dL_law_354 rfl (lv_at hl 3 rfl) ?_
  refine lv_iload_n hx hb dL_law_355 rfl (lv_at hl 0 rfl) ?_
  refine lv_iconst (v := 3) hx hb dL_law_356 (by decide) ?_
  refine lv_iadd hx hb dL_law_357 ?_
  refine lv_topi (fun z12 ez12 => ?_)
  have iz12 : z12.toInt = i.toInt + 3 := by rw [ez12]; exact (i_add (X := i.toInt) (Y := 3) rfl (by decide) (by have h8 := i_rng (i); have h9 := i_rng (3); omega) (by have h8 := i_rng (i); have h9 := i_rng (3); omega)).trans (by omega)
  refine va_sld hx hb hX hbl hbA hS (i_in (X := i.toInt + 3) iz12 (by omega) (by omega)) dL_law_358 ?_
  refine lv_topi (fun z13 ez13 => ?_)
  obtain ⟨fs, he⟩ := ShM_he hsm (wi ++ wx)
  refine doVA (n := 3) (As := [.int z9, .int z11, .int z13]) (rest := []) (wc := wm) (wr := wi ++ wx) hx hb hml hown hts hK hP hD hS hA he rfl hE (u_y_deed l D cI cB cJ cZ cT tz adK adV hsm z9 z11 z13) gL_law_X10_deed rfl rfl rfl (by decide +kernel) ⟨Nat.le_of_ble_eq_true rfl, Nat.le_of_ble_eq_true rfl⟩ hl.1 rfl rfl (Nat.le_of_ble_eq_true rfl) dL_law_359 ⟨show cells + 0 + 0 ≤ 600000 from by omega, show slots + 0 + 0 ≤ 7302250 from by omega⟩ (fun u H locs hw hP hD hS => ?_)
  obtain ⟨⟨wm, M2⟩, r14⟩ := u
  obtain ⟨hsm, hrel⟩ := hw
  have hsm : ShM cI cB cJ cZ cT bd M2 wm := hsm
  have hs0 : z9 = z2 := by rw [ez9, ez2, ez8, ez1]
  have hs1 : z11 = z4 := by rw [ez11, ez4, ez10, ez3]
  have hs2 : z13 = z6 := by rw [ez13, ez6, ez12, ez5]
  have hSy : S_y_deed M z9 z11 z13 r14 := hrel.1
  rw [hs0, hs1, hs2] at hSy
  have e1 : M = M2 := hrel.2.symm
  subst e1
  have hrr := deed_sim hTL.1 hrx.2.2.1 hSx hSy
  have hP := va_P_perm hP (pm_2 wi wx wm)
  have hD := va_D_perm hD (pm_2 wi wx wm)
  refine W.eq (g2 := F0 m 362 ls [.int r14]) rfl ?_
  refine lv_pop hx hb dL_law_362 rfl ?_
  refine lv_goto (tgt := 1241) hx hb dL_law_363 (by decide) ?_
  refine W.widen (k := cells + 24) (n := slots + 957) (by omega) (by omega) ?_
  exact kk TN TF M wx wi wm _ _ _ hsx hsi hsm hTL hP hD hS (lv_sub hl [0, 1, 2, 3] rfl)
set_option maxHeartbeats 4000000 in
set_option maxRecDepth 100000 in
theorem law_6 {p : Program} {e : Env} {s : State} {m : MethodId} {below : List Frame} {meth : Method} {c : Code} (l : Launch) {b L : Nat} {xs : Nat → Int32} (hL : L ≤ 3072) (C0 : lw_At p s m meth c b L xs) {D : va_G} {cI cB cJ cZ cT : ClassId} (hK : KK D (tyL cI cB cJ cZ cT) s) {tz adK adV : Nat → Nat} (hE : EE tz adK adV (fun q : Nat => s.heap.size ≤ q) s s.heap) {ad ai bd : Nat} {TN : Nat → Int32} {TF M : Nat → Nat → Int32} {wx wi wm : va_W} (hsx : ShX cI cB cJ cZ cT ad ai TN TF wx) (hsi : ShI cI cB cJ cZ cT ai M wi) (hsm : ShM cI cB cJ cZ cT bd M wm) (hTL : TLg 0 TN TF M) {H : Heap} {locs : List Loc} (hP : va_P D vwCl (wx ++ (wi ++ wm)) H) (hD : va_D (fun q : Nat => s.heap.size ≤ q) (wx ++ (wi ++ wm))) (hS : va_S (fun q : Nat => s.heap.size ≤ q) s.heap H locs) {ls : Array Slot} {i : Int32} (hi : 0 ≤ i.toInt ∧ i.toInt + 6 ≤ L) (hl : lv_has ls 4 [(3, .int i), (2, .ref bd), (1, .ref ad), (0, .ref b)]) {cells slots : Nat} (hc : cells + 24 ≤ 600000) (hss : slots + 957 ≤ 7302250) (kk : ∀ (TN : Nat → Int32) (TF M : Nat → Nat → Int32) (wx wi wm : va_W) (H : Heap) (locs : List Loc) (ls : Array Slot), ShX cI cB cJ cZ cT ad ai TN TF wx → ShI cI cB cJ cZ cT ai M wi → ShM cI cB cJ cZ cT bd M wm → TLg 0 TN TF M → va_P D vwCl (wx ++ (wi ++ wm)) H → va_D (fun q : Nat => s.heap.size ≤ q) (wx ++ (wi ++ wm)) → va_S (fun q : Nat => s.heap.size ≤ q) s.heap H locs → lv_has ls 4 [(3, .int i), (2, .ref bd), (1, .ref ad), (0, .ref b)] → W p l e room_1 s m #[Value.ref b] below meth c H locs (cells + 24) (slots + 957) (lw_Z below #[Value.ref b] s) (F0 m 1241 ls [])) : W p l e room_1 s m #[Value.ref b] below meth c H locs (cells) (slots) (lw_Z below #[Value.ref b] s) (F0 m 366 ls []) := by
  obtain ⟨hx, hb, hr, hml, hown, hts0, hX, hbl, hlocks, hgv⟩ := id C0
  have hown : s.vm.findClass RL = some m.cls := hown
  have hts : ∀ w ∈ lw_tbl, w.before #[Value.ref b] s = true := hts0
  have hA : ∀ q : Nat, s.heap.size ≤ q → (fun q : Nat => s.heap.size ≤ q) q := fun _ h => h
  have hbA : ¬ (fun q : Nat => s.heap.size ≤ q) b := Nat.not_le.mpr hbl
  refine lv_aload_n hx hb dL_law_366 rfl (lv_at hl 2 rfl) ?_
  refine lv_aload_n hx hb dL_law_367 rfl (lv_at hl 3 rfl) ?_
  refine lv_iload_n hx hb dL_law_368 rfl (lv_at hl 0 rfl) ?_
  refine lv_iconst (v := 1) hx hb dL_law_369 (by decide) ?_
  refine lv_iadd hx hb dL_law_370 ?_
  refine lv_topi (fun z1 ez1 => ?_)
  have iz1 : z1.toInt = i.toInt + 1 := by rw [ez1]; exact (i_add (X := i.toInt) (Y := 1) rfl (by decide) (by have h8 := i_rng (i); have h9 := i_rng (1); omega) (by have h8 := i_rng (i); have h9 := i_rng (1); omega)).trans (by omega)
  refine va_sld hx hb hX hbl hbA hS (i_in (X := i.toInt + 1) iz1 (by omega) (by omega)) dL_law_371 ?_
  refine lv_topi (fun z2 ez2 => ?_)
  refine lv_aload_n hx hb dL_law_372 rfl (lv_at hl 3 rfl) ?_
  refine lv_iload_n hx hb dL_law_373 rfl (lv_at hl 0 rfl) ?_
  refine lv_iconst (v := 2) hx hb dL_law_374 (by decide) ?_
  refine lv_iadd hx hb dL_law_375 ?_
  refine lv_topi (fun z3 ez3 => ?_)
  have iz3 : z3.toInt = i.toInt + 2 := by rw [ez3]; exact (i_add (X := i.toInt) (Y := 2) rfl (by decide) (by have h8 := i_rng (i); have h9 := i_rng (2); omega) (by have h8 := i_rng (i); have h9 := i_rng (2); omega)).trans (by omega)
  refine va_sld hx hb hX hbl hbA hS (i_in (X := i.toInt + 2) iz3 (by omega) (by omega)) dL_law_376 ?_
  refine lv_topi (fun z4 ez4 => ?_)
  obtain ⟨fs, he⟩ := ShX_he hsx (wi ++ wm)
  refine doVA (n := 2) (As := [.int z2, .int z4]) (rest := []) (wc := wx) (wr := wi ++ wm) hx hb hml hown hts hK hP hD hS hA he rfl hE (u_x_stop l D cI cB cJ cZ cT tz adK adV hsx z2 z4) gL_law_X9_stop rfl rfl rfl (by decide +kernel) ⟨Nat.le_of_ble_eq_true rfl, Nat.le_of_ble_eq_true rfl⟩ hl.1 rfl rfl (Nat.le_of_ble_eq_true rfl) dL_law_377 ⟨show cells + 0 ≤ 600000 from by omega, show slots + 0 ≤ 7302250 from by omega⟩ (fun u H locs hw hP hD hS => ?_)
  have hrx := ShX_r hsx
  have hrm := ShM_r hsm
  obtain ⟨⟨wx, ⟨TN2, TF2⟩⟩, r5⟩ := u
  obtain ⟨hsx, hrel⟩ := hw
  have hsx : ShX cI cB cJ cZ cT ad ai TN2 TF2 wx := hsx
  have e1 : TN = TN2 := hrel.1.symm
  have e2 : TF = TF2 := hrel.2.symm
  subst e1
  subst e2
  have hP := va_P_perm hP (pm_1 wi wm wx)
  have hD := va_D_perm hD (pm_1 wi wm wx)
  refine W.eq (g2 := F0 m 380 ls [.int r5]) rfl ?_
  refine lv_pop hx hb dL_law_380 rfl ?_
  refine lv_aload_n hx hb dL_law_381 rfl (lv_at hl 1 rfl) ?_
  refine lv_aload_n hx hb dL_law_382 rfl (lv_at hl 3 rfl) ?_
  refine lv_iload_n hx hb dL_law_383 rfl (lv_at hl 0 rfl) ?_
  refine lv_iconst (v := 1) hx hb dL_law_384 (by decide) ?_
  refine lv_iadd hx hb dL_law_385 ?_
  refine lv_topi (fun z6 ez6 => ?_)
  have iz6 : z6.toInt = i.toInt + 1 := by rw [ez6]; exact (i_add (X := i.toInt) (Y := 1) rfl (by decide) (by have h8 := i_rng (i); have h9 := i_rng (1); omega) (by have h8 := i_rng (i); have h9 := i_rng (1); omega)).trans (by omega)
  refine va_sld hx hb hX hbl hbA hS (i_in (X := i.toInt + 1) iz6 (by omega) (by omega)) dL_law_386 ?_
  refine lv_topi (fun z7 ez7 => ?_)
  refine lv_aload_n hx hb dL_law_387 rfl (lv_at hl 3 rfl) ?_
  refine lv_iload_n hx hb dL_law_388 rfl (lv_at hl 0 rfl) ?_
  refine lv_iconst (v := 2) hx hb dL_law_389 (by decide) ?_
  refine lv_iadd hx hb dL_law_390 ?_
  refine lv_topi (fun z8 ez8 => ?_)
  have iz8 : z8.toInt = i.toInt + 2 := by rw [ez8]; exact (i_add (X := i.toInt) (Y := 2) rfl (by decide) (by have h8 := i_rng (i); have h9 := i_rng (2); omega) (by have h8 := i_rng (i); have h9 := i_rng (2); omega)).trans (by omega)
  refine va_sld hx hb hX hbl hbA hS (i_in (X := i.toInt + 2) iz8 (by omega) (by omega)) dL_law_391 ?_
  refine lv_topi (fun z9 ez9 => ?_)
  obtain ⟨fs, he⟩ := ShM_he hsm (wi ++ wx)
  refine doVA (n := 2) (As := [.int z7, .int z9]) (rest := []) (wc := wm) (wr := wi ++ wx) hx hb hml hown hts hK hP hD hS hA he rfl hE (u_y_stop l D cI cB cJ cZ cT tz adK adV hsm z7 z9) gL_law_X10_stop rfl rfl rfl (by decide +kernel) ⟨Nat.le_of_ble_eq_true rfl, Nat.le_of_ble_eq_true rfl⟩ hl.1 rfl rfl (Nat.le_of_ble_eq_true rfl) dL_law_392 ⟨show cells + 0 + 0 ≤ 600000 from by omega, show slots + 0 + 0 ≤ 7302250 from by omega⟩ (fun u H locs hw hP hD hS => ?_)
  obtain ⟨⟨wm, M2⟩, r10⟩ := u
  obtain ⟨hsm, hrel⟩ := hw
  have hsm : ShM cI cB cJ cZ cT bd M2 wm := hsm
  have e1 : M = M2 := hrel.symm
  subst e1
  have hP := va_P_perm hP (pm_2 wi wx wm)
  have hD := va_D_perm hD (pm_2 wi wx wm)
  refine W.eq (g2 := F0 m 395 ls [.int r10]) rfl ?_
  refine lv_pop hx hb dL_law_395 rfl ?_
  refine lv_goto (tgt := 1241) hx hb dL_law_396 (by decide) ?_
  refine W.widen (k := cells + 24) (n := slots + 957) (by omega) (by omega) ?_
  exact kk TN TF M wx wi wm _ _ _ hsx hsi hsm hTL hP hD hS (lv_sub hl [0, 1, 2, 3] rfl)
set_option maxHeartbeats 4000000 in
set_option maxRecDepth 100000 in
theorem law_7 {p : Program} {e : Env} {s : State} {m : MethodId} {below : List Frame} {meth : Method} {c : Code} (l : Launch) {b L : Nat} {xs : Nat → Int32} (hL : L ≤ 3072) (C0 : lw_At p s m meth c b L xs) {D : va_G} {cI cB cJ cZ cT : ClassId} (hK : KK D (tyL cI cB cJ cZ cT) s) {tz adK adV : Nat → Nat} (hE : EE tz adK adV (fun q : Nat => s.heap.size ≤ q) s s.heap) {ad ai bd : Nat} {TN : Nat → Int32} {TF M : Nat → Nat → Int32} {wx wi wm : va_W} (hsx : ShX cI cB cJ cZ cT ad ai TN TF wx) (hsi : ShI cI cB cJ cZ cT ai M wi) (hsm : ShM cI cB cJ cZ cT bd M wm) (hTL : TLg 0 TN TF M) {H : Heap} {locs : List Loc} (hP : va_P D vwCl (wx ++ (wi ++ wm)) H) (hD : va_D (fun q : Nat => s.heap.size ≤ q) (wx ++ (wi ++ wm))) (hS : va_S (fun q : Nat => s.heap.size ≤ q) s.heap H locs) {ls : Array Slot} {i : Int32} (hi : 0 ≤ i.toInt ∧ i.toInt + 6 ≤ L) (hl : lv_has ls 4 [(3, .int i), (2, .ref bd), (1, .ref ad), (0, .ref b)]) {cells slots : Nat} (hc : cells + 24 ≤ 600000) (hss : slots + 957 ≤ 7302250) (kk : ∀ (TN : Nat → Int32) (TF M : Nat → Nat → Int32) (wx wi wm : va_W) (H : Heap) (locs : List Loc) (ls : Array Slot), ShX cI cB cJ cZ cT ad ai TN TF wx → ShI cI cB cJ cZ cT ai M wi → ShM cI cB cJ cZ cT bd M wm → TLg 0 TN TF M → va_P D vwCl (wx ++ (wi ++ wm)) H → va_D (fun q : Nat => s.heap.size ≤ q) (wx ++ (wi ++ wm)) → va_S (fun q : Nat => s.heap.size ≤ q) s.heap H locs → lv_has ls 4 [(3, .int i), (2, .ref bd), (1, .ref ad), (0, .ref b)] → W p l e room_1 s m #[Value.ref b] below meth c H locs (cells + 24) (slots + 957) (lw_Z below #[Value.ref b] s) (F0 m 1241 ls [])) : W p l e room_1 s m #[Value.ref b] below meth c H locs (cells) (slots) (lw_Z below #[Value.ref b] s) (F0 m 399 ls []) := by
  obtain ⟨hx, hb, hr, hml, hown, hts0, hX, hbl, hlocks, hgv⟩ := id C0
  have hown : s.vm.findClass RL = some m.cls := hown
  have hts : ∀ w ∈ lw_tbl, w.before #[Value.ref b] s = true := hts0
  have hA : ∀ q : Nat, s.heap.size ≤ q → (fun q : Nat => s.heap.size ≤ q) q := fun _ h => h
  have hbA : ¬ (fun q : Nat => s.heap.size ≤ q) b := Nat.not_le.mpr hbl
  refine lv_aload_n hx hb dL_law_399 rfl (lv_at hl 2 rfl) ?_
  refine lv_aload_n hx hb dL_law_400 rfl (lv_at hl 3 rfl) ?_
  refine lv_iload_n hx hb dL_law_401 rfl (lv_at hl 0 rfl) ?_
  refine lv_iconst (v := 1) hx hb dL_law_402 (by decide) ?_
  refine lv_iadd hx hb dL_law_403 ?_
  refine lv_topi (fun z1 ez1 => ?_)
  have iz1 : z1.toInt = i.toInt + 1 := by rw [ez1]; exact (i_add (X := i.toInt) (Y := 1) rfl (by decide) (by have h8 := i_rng (i); have h9 := i_rng (1); omega) (by have h8 := i_rng (i); have h9 := i_rng (1); omega)).trans (by omega)
  refine va_sld hx hb hX hbl hbA hS (i_in (X := i.toInt + 1) iz1 (by omega) (by omega)) dL_law_404 ?_
  refine lv_topi (fun z2 ez2 => ?_)
  refine lv_aload_n hx hb dL_law_405 rfl (lv_at hl 3 rfl) ?_
  refine lv_iload_n hx hb dL_law_406 rfl (lv_at hl 0 rfl) ?_
  refine lv_iconst (v := 2) hx hb dL_law_407 (by decide) ?_
  refine lv_iadd hx hb dL_law_408 ?_
  refine lv_topi (fun z3 ez3 => ?_)
  have iz3 : z3.toInt = i.toInt + 2 := by rw [ez3]; exact (i_add (X := i.toInt) (Y := 2) rfl (by decide) (by have h8 := i_rng (i); have h9 := i_rng (2); omega) (by have h8 := i_rng (i); have h9 := i_rng (2); omega)).trans (by omega)
  refine va_sld hx hb hX hbl hbA hS (i_in (X := i.toInt + 2) iz3 (by omega) (by omega)) dL_law_409 ?_
  refine lv_topi (fun z4 ez4 => ?_)
  refine lv_aload_n hx hb dL_law_410 rfl (lv_at hl 3 rfl) ?_
  refine lv_iload_n hx hb dL_law_411 rfl (lv_at hl 0 rfl) ?_
  refine lv_iconst (v := 3) hx hb dL_law_412 (by decide) ?_
  refine lv_iadd hx hb dL_law_413 ?_
  refine lv_topi (fun z5 ez5 => ?_)
  have iz5 : z5.toInt = i.toInt + 3 := by rw [ez5]; exact (i_add (X := i.toInt) (Y := 3) rfl (by decide) (by have h8 := i_rng (i); have h9 := i_rng (3); omega) (by have h8 := i_rng (i); have h9 := i_rng (3); omega)).trans (by omega)
  refine va_sld hx hb hX hbl hbA hS (i_in (X := i.toInt + 3) iz5 (by omega) (by omega)) dL_law_414 ?_
  refine lv_topi (fun z6 ez6 => ?_)
  refine lv_aload_n hx hb dL_law_415 rfl (lv_at hl 3 rfl) ?_
  refine lv_iload_n hx hb dL_law_416 rfl (lv_at hl 0 rfl) ?_
  refine lv_iconst (v := 4) hx hb dL_law_417 (by decide) ?_
  refine lv_iadd hx hb dL_law_418 ?_
  refine lv_topi (fun z7 ez7 => ?_)
  have iz7 : z7.toInt = i.toInt + 4 := by rw [ez7]; exact (i_add (X := i.toInt) (Y := 4) rfl (by decide) (by have h8 := i_rng (i); have h9 := i_rng (4); omega) (by have h8 := i_rng (i); have h9 := i_rng (4); omega)).trans (by omega)
  refine va_sld hx hb hX hbl hbA hS (i_in (X := i.toInt + 4) iz7 (by omega) (by omega)) dL_law_419 ?_
  refine lv_topi (fun z8 ez8 => ?_)
  obtain ⟨fs, he⟩ := ShX_he hsx (wi ++ wm)
  refine doVA (n := 4) (As := [.int z2, .int z4, .int z6, .int z8]) (rest := []) (wc := wx) (wr := wi ++ wm) hx hb hml hown hts hK hP hD hS hA he rfl hE (u_x_state l D cI cB cJ cZ cT tz adK adV hsx z2 z4 z6 z8) gL_law_X9_state rfl rfl rfl (by decide +kernel) ⟨Nat.le_of_ble_eq_true rfl, Nat.le_of_ble_eq_true rfl⟩ hl.1 rfl rfl (Nat.le_of_ble_eq_true rfl) dL_law_420 ⟨show cells + 0 ≤ 600000 from by omega, show slots + 0 ≤ 7302250 from by omega⟩ (fun u H locs hw hP hD hS => ?_)
  have hrx := ShX_r hsx
  have hrm := ShM_r hsm
  obtain ⟨⟨wx, ⟨TN2, TF2⟩⟩, r9⟩ := u
  obtain ⟨hsx, hrel⟩ := hw
  have hsx : ShX cI cB cJ cZ cT ad ai TN2 TF2 wx := hsx
  have e1 : TN = TN2 := hrel.1.symm
  have e2 : TF = TF2 := hrel.2.symm
  subst e1
  subst e2
  have hP := va_P_perm hP (pm_1 wi wm wx)
  have hD := va_D_perm hD (pm_1 wi wm wx)
  refine W.eq (g2 := F0 m 423 ls [.int r9]) rfl ?_
  refine lv_pop hx hb dL_law_423 rfl ?_
  refine lv_aload_n hx hb dL_law_424 rfl (lv_at hl 1 rfl) ?_
  refine lv_aload_n hx hb dL_law_425 rfl (lv_at hl 3 rfl) ?_
  refine lv_iload_n hx hb dL_law_426 rfl (lv_at hl 0 rfl) ?_
  refine lv_iconst (v := 1) hx hb dL_law_427 (by decide) ?_
  refine lv_iadd hx hb dL_law_428 ?_
  refine lv_topi (fun z10 ez10 => ?_)
  have iz10 : z10.toInt = i.toInt + 1 := by rw [ez10]; exact (i_add (X := i.toInt) (Y := 1) rfl (by decide) (by have h8 := i_rng (i); have h9 := i_rng (1); omega) (by have h8 := i_rng (i); have h9 := i_rng (1); omega)).trans (by omega)
  refine va_sld hx hb hX hbl hbA hS (i_in (X := i.toInt + 1) iz10 (by omega) (by omega)) dL_law_429 ?_
  refine lv_topi (fun z11 ez11 => ?_)
  refine lv_aload_n hx hb dL_law_430 rfl (lv_at hl 3 rfl) ?_
  refine lv_iload_n hx hb dL_law_431 rfl (lv_at hl 0 rfl) ?_
  refine lv_iconst (v := 2) hx hb dL_law_432 (by decide) ?_
  refine lv_iadd hx hb dL_law_433 ?_
  refine lv_topi (fun z12 ez12 => ?_)
  have iz12 : z12.toInt = i.toInt + 2 := by rw [ez12]; exact (i_add (X := i.toInt) (Y := 2) rfl (by decide) (by have h8 := i_rng (i); have h9 := i_rng (2); omega) (by have h8 := i_rng (i); have h9 := i_rng (2); omega)).trans (by omega)
  refine va_sld hx hb hX hbl hbA hS (i_in (X := i.toInt + 2) iz12 (by omega) (by omega)) dL_law_434 ?_
  refine lv_topi (fun z13 ez13 => ?_)
  refine lv_aload_n hx hb dL_law_435 rfl (lv_at hl 3 rfl) ?_
  refine lv_iload_n hx hb dL_law_436 rfl (lv_at hl 0 rfl) ?_
  refine lv_iconst (v := 3) hx hb dL_law_437 (by decide) ?_
  refine lv_iadd hx hb dL_law_438 ?_
  refine lv_topi (fun z14 ez14 => ?_)
  have iz14 : z14.toInt = i.toInt + 3 := by rw [ez14]; exact (i_add (X := i.toInt) (Y := 3) rfl (by decide) (by have h8 := i_rng (i); have h9 := i_rng (3); omega) (by have h8 := i_rng (i); have h9 := i_rng (3); omega)).trans (by omega)
  refine va_sld hx hb hX hbl hbA hS (i_in (X := i.toInt + 3) iz14 (by omega) (by omega)) dL_law_439 ?_
  refine lv_topi (fun z15 ez15 => ?_)
  refine lv_aload_n hx hb dL_law_440 rfl (lv_at hl 3 rfl) ?_
  refine lv_iload_n hx hb dL_law_441 rfl (lv_at hl 0 rfl) ?_
  refine lv_iconst (v := 4) hx hb dL_law_442 (by decide) ?_
  refine lv_iadd hx hb dL_law_443 ?_
  refine lv_topi (fun z16 ez16 => ?_)
  have iz16 : z16.toInt = i.toInt + 4 := by rw [ez16]; exact (i_add (X := i.toInt) (Y := 4) rfl (by decide) (by have h8 := i_rng (i); have h9 := i_rng (4); omega) (by have h8 := i_rng (i); have h9 := i_rng (4); omega)).trans (by omega)
  refine va_sld hx hb hX hbl hbA hS (i_in (X := i.toInt + 4) iz16 (by omega) (by omega)) dL_law_444 ?_
  refine lv_topi (fun z17 ez17 => ?_)
  obtain ⟨fs, he⟩ := ShM_he hsm (wi ++ wx)
  refine doVA (n := 4) (As := [.int z11, .int z13, .int z15, .int z17]) (rest := []) (wc := wm) (wr := wi ++ wx) hx hb hml hown hts hK hP hD hS hA he rfl hE (u_y_state l D cI cB cJ cZ cT tz adK adV hsm z11 z13 z15 z17) gL_law_X10_state rfl rfl rfl (by decide +kernel) ⟨Nat.le_of_ble_eq_true rfl, Nat.le_of_ble_eq_true rfl⟩ hl.1 rfl rfl (Nat.le_of_ble_eq_true rfl) dL_law_445 ⟨show cells + 0 + 0 ≤ 600000 from by omega, show slots + 0 + 0 ≤ 7302250 from by omega⟩ (fun u H locs hw hP hD hS => ?_)
  obtain ⟨⟨wm, M2⟩, r18⟩ := u
  obtain ⟨hsm, hrel⟩ := hw
  have hsm : ShM cI cB cJ cZ cT bd M2 wm := hsm
  have e1 : M = M2 := hrel.symm
  subst e1
  have hP := va_P_perm hP (pm_2 wi wx wm)
  have hD := va_D_perm hD (pm_2 wi wx wm)
  refine W.eq (g2 := F0 m 448 ls [.int r18]) rfl ?_
  refine lv_pop hx hb dL_law_448 rfl ?_
  refine lv_goto (tgt := 1241) hx hb dL_law_449 (by decide) ?_
  refine W.widen (k := cells + 24) (n := slots + 957) (by omega) (by omega) ?_
  exact kk TN TF M wx wi wm _ _ _ hsx hsi hsm hTL hP hD hS (lv_sub hl [0, 1, 2, 3] rfl)
set_option maxHeartbeats 4000000 in
set_option maxRecDepth 100000 in
theorem law_8 {p : Program} {e : Env} {s : State} {m : MethodId} {below : List Frame} {meth : Method} {c : Code} (l : Launch) {b L : Nat} {xs : Nat → Int32} (hL : L ≤ 3072) (C0 : lw_At p s m meth c b L xs) {D : va_G} {cI cB cJ cZ cT : ClassId} (hK : KK D (tyL cI cB cJ cZ cT) s) {tz adK adV : Nat → Nat} (hE : EE tz adK adV (fun q : Nat => s.heap.size ≤ q) s s.heap) {ad ai bd : Nat} {TN : Nat → Int32} {TF M : Nat → Nat → Int32} {wx wi wm : va_W} (hsx : ShX cI cB cJ cZ cT ad ai TN TF wx) (hsi : ShI cI cB cJ cZ cT ai M wi) (hsm : ShM cI cB cJ cZ cT bd M wm) (hTL : TLg 0 TN TF M) {H : Heap} {locs : List Loc} (hP : va_P D vwCl (wx ++ (wi ++ wm)) H) (hD : va_D (fun q : Nat => s.heap.size ≤ q) (wx ++ (wi ++ wm))) (hS : va_S (fun q : Nat => s.heap.size ≤ q) s.heap H locs) {ls : Array Slot} {i : Int32} (hi : 0 ≤ i.toInt ∧ i.toInt + 6 ≤ L) (hl : lv_has ls 4 [(3, .int i), (2, .ref bd), (1, .ref ad), (0, .ref b)]) {cells slots : Nat} (hc : cells + 24 ≤ 600000) (hss : slots + 957 ≤ 7302250) (kk : ∀ (TN : Nat → Int32) (TF M : Nat → Nat → Int32) (wx wi wm : va_W) (H : Heap) (locs : List Loc) (ls : Array Slot), ShX cI cB cJ cZ cT ad ai TN TF wx → ShI cI cB cJ cZ cT ai M wi → ShM cI cB cJ cZ cT bd M wm → TLg 0 TN TF M → va_P D vwCl (wx ++ (wi ++ wm)) H → va_D (fun q : Nat => s.heap.size ≤ q) (wx ++ (wi ++ wm)) → va_S (fun q : Nat => s.heap.size ≤ q) s.heap H locs → lv_has ls 4 [(3, .int i), (2, .ref bd), (1, .ref ad), (0, .ref b)] → W p l e room_1 s m #[Value.ref b] below meth c H locs (cells + 24) (slots + 957) (lw_Z below #[Value.ref b] s) (F0 m 1241 ls [])) : W p l e room_1 s m #[Value.ref b] below meth c H locs (cells) (slots) (lw_Z below #[Value.ref b] s) (F0 m 452 ls []) := by
  obtain ⟨hx, hb, hr, hml, hown, hts0, hX, hbl, hlocks, hgv⟩ := id C0
  have hown : s.vm.findClass RL = some m.cls := hown
  have hts : ∀ w ∈ lw_tbl, w.before #[Value.ref b] s = true := hts0
  have hA : ∀ q : Nat, s.heap.size ≤ q → (fun q : Nat => s.heap.size ≤ q) q := fun _ h => h
  have hbA : ¬ (fun q : Nat => s.heap.size ≤ q) b := Nat.not_le.mpr hbl
  refine lv_aload_n hx hb dL_law_452 rfl (lv_at hl 2 rfl) ?_
  refine lv_aload_n hx hb dL_law_453 rfl (lv_at hl 3 rfl) ?_
  refine lv_iload_n hx hb dL_law_454 rfl (lv_at hl 0 rfl) ?_
  refine lv_iconst (v := 1) hx hb dL_law_455 (by decide) ?_
  refine lv_iadd hx hb dL_law_456 ?_
  refine lv_topi (fun z1 ez1 => ?_)
  have iz1 : z1.toInt = i.toInt + 1 := by rw [ez1]; exact (i_add (X := i.toInt) (Y := 1) rfl (by decide) (by have h8 := i_rng (i); have h9 := i_rng (1); omega) (by have h8 := i_rng (i); have h9 := i_rng (1); omega)).trans (by omega)
  refine va_sld hx hb hX hbl hbA hS (i_in (X := i.toInt + 1) iz1 (by omega) (by omega)) dL_law_457 ?_
  refine lv_topi (fun z2 ez2 => ?_)
  refine lv_aload_n hx hb dL_law_458 rfl (lv_at hl 3 rfl) ?_
  refine lv_iload_n hx hb dL_law_459 rfl (lv_at hl 0 rfl) ?_
  refine lv_iconst (v := 2) hx hb dL_law_460 (by decide) ?_
  refine lv_iadd hx hb dL_law_461 ?_
  refine lv_topi (fun z3 ez3 => ?_)
  have iz3 : z3.toInt = i.toInt + 2 := by rw [ez3]; exact (i_add (X := i.toInt) (Y := 2) rfl (by decide) (by have h8 := i_rng (i); have h9 := i_rng (2); omega) (by have h8 := i_rng (i); have h9 := i_rng (2); omega)).trans (by omega)
  refine va_sld hx hb hX hbl hbA hS (i_in (X := i.toInt + 2) iz3 (by omega) (by omega)) dL_law_462 ?_
  refine lv_topi (fun z4 ez4 => ?_)
  refine lv_aload_n hx hb dL_law_463 rfl (lv_at hl 3 rfl) ?_
  refine lv_iload_n hx hb dL_law_464 rfl (lv_at hl 0 rfl) ?_
  refine lv_iconst (v := 3) hx hb dL_law_465 (by decide) ?_
  refine lv_iadd hx hb dL_law_466 ?_
  refine lv_topi (fun z5 ez5 => ?_)
  have iz5 : z5.toInt = i.toInt + 3 := by rw [ez5]; exact (i_add (X := i.toInt) (Y := 3) rfl (by decide) (by have h8 := i_rng (i); have h9 := i_rng (3); omega) (by have h8 := i_rng (i); have h9 := i_rng (3); omega)).trans (by omega)
  refine va_sld hx hb hX hbl hbA hS (i_in (X := i.toInt + 3) iz5 (by omega) (by omega)) dL_law_467 ?_
  refine lv_topi (fun z6 ez6 => ?_)
  refine lv_aload_n hx hb dL_law_468 rfl (lv_at hl 3 rfl) ?_
  refine lv_iload_n hx hb dL_law_469 rfl (lv_at hl 0 rfl) ?_
  refine lv_iconst (v := 4) hx hb dL_law_470 (by decide) ?_
  refine lv_iadd hx hb dL_law_471 ?_
  refine lv_topi (fun z7 ez7 => ?_)
  have iz7 : z7.toInt = i.toInt + 4 := by rw [ez7]; exact (i_add (X := i.toInt) (Y := 4) rfl (by decide) (by have h8 := i_rng (i); have h9 := i_rng (4); omega) (by have h8 := i_rng (i); have h9 := i_rng (4); omega)).trans (by omega)
  refine va_sld hx hb hX hbl hbA hS (i_in (X := i.toInt + 4) iz7 (by omega) (by omega)) dL_law_472 ?_
  refine lv_topi (fun z8 ez8 => ?_)
  refine lv_aload_n hx hb dL_law_473 rfl (lv_at hl 3 rfl) ?_
  refine lv_iload_n hx hb dL_law_474 rfl (lv_at hl 0 rfl) ?_
  refine lv_iconst (v := 5) hx hb dL_law_475 (by decide) ?_
  refine lv_iadd hx hb dL_law_476 ?_
  refine lv_topi (fun z9 ez9 => ?_)
  have iz9 : z9.toInt = i.toInt + 5 := by rw [ez9]; exact (i_add (X := i.toInt) (Y := 5) rfl (by decide) (by have h8 := i_rng (i); have h9 := i_rng (5); omega) (by have h8 := i_rng (i); have h9 := i_rng (5); omega)).trans (by omega)
  refine va_sld hx hb hX hbl hbA hS (i_in (X := i.toInt + 5) iz9 (by omega) (by omega)) dL_law_477 ?_
  refine lv_topi (fun z10 ez10 => ?_)
  obtain ⟨fs, he⟩ := ShX_he hsx (wi ++ wm)
  refine doVA (n := 5) (As := [.int z2, .int z4, .int z6, .int z8, .int z10]) (rest := []) (wc := wx) (wr := wi ++ wm) hx hb hml hown hts hK hP hD hS hA he rfl hE (u_x_palm l D cI cB cJ cZ cT tz adK adV hsx z2 z4 z6 z8 z10) gL_law_X9_palm rfl rfl rfl (by decide +kernel) ⟨Nat.le_of_ble_eq_true rfl, Nat.le_of_ble_eq_true rfl⟩ hl.1 rfl rfl (Nat.le_of_ble_eq_true rfl) dL_law_478 ⟨show cells + 0 ≤ 600000 from by omega, show slots + 0 ≤ 7302250 from by omega⟩ (fun u H locs hw hP hD hS => ?_)
  have hrx := ShX_r hsx
  have hrm := ShM_r hsm
  obtain ⟨⟨wx, ⟨TN2, TF2⟩⟩, r11⟩ := u
  obtain ⟨hsx, hrel⟩ := hw
  have hsx : ShX cI cB cJ cZ cT ad ai TN2 TF2 wx := hsx
  have e1 : TN = TN2 := hrel.1.symm
  have e2 : TF = TF2 := hrel.2.symm
  subst e1
  subst e2
  have hP := va_P_perm hP (pm_1 wi wm wx)
  have hD := va_D_perm hD (pm_1 wi wm wx)
  refine W.eq (g2 := F0 m 481 ls [.int r11]) rfl ?_
  refine lv_pop hx hb dL_law_481 rfl ?_
  refine lv_aload_n hx hb dL_law_482 rfl (lv_at hl 1 rfl) ?_
  refine lv_aload_n hx hb dL_law_483 rfl (lv_at hl 3 rfl) ?_
  refine lv_iload_n hx hb dL_law_484 rfl (lv_at hl 0 rfl) ?_
  refine lv_iconst (v := 1) hx hb dL_law_485 (by decide) ?_
  refine lv_iadd hx hb dL_law_486 ?_
  refine lv_topi (fun z12 ez12 => ?_)
  have iz12 : z12.toInt = i.toInt + 1 := by rw [ez12]; exact (i_add (X := i.toInt) (Y := 1) rfl (by decide) (by have h8 := i_rng (i); have h9 := i_rng (1); omega) (by have h8 := i_rng (i); have h9 := i_rng (1); omega)).trans (by omega)
  refine va_sld hx hb hX hbl hbA hS (i_in (X := i.toInt + 1) iz12 (by omega) (by omega)) dL_law_487 ?_
  refine lv_topi (fun z13 ez13 => ?_)
  refine lv_aload_n hx hb dL_law_488 rfl (lv_at hl 3 rfl) ?_
  refine lv_iload_n hx hb dL_law_489 rfl (lv_at hl 0 rfl) ?_
  refine lv_iconst (v := 2) hx hb dL_law_490 (by decide) ?_
  refine lv_iadd hx hb dL_law_491 ?_
  refine lv_topi (fun z14 ez14 => ?_)
  have iz14 : z14.toInt = i.toInt + 2 := by rw [ez14]; exact (i_add (X := i.toInt) (Y := 2) rfl (by decide) (by have h8 := i_rng (i); have h9 := i_rng (2); omega) (by have h8 := i_rng (i); have h9 := i_rng (2); omega)).trans (by omega)
  refine va_sld hx hb hX hbl hbA hS (i_in (X := i.toInt + 2) iz14 (by omega) (by omega)) dL_law_492 ?_
  refine lv_topi (fun z15 ez15 => ?_)
  refine lv_aload_n hx hb dL_law_493 rfl (lv_at hl 3 rfl) ?_
  refine lv_iload_n hx hb dL_law_494 rfl (lv_at hl 0 rfl) ?_
  refine lv_iconst (v := 3) hx hb dL_law_495 (by decide) ?_
  refine lv_iadd hx hb dL_law_496 ?_
  refine lv_topi (fun z16 ez16 => ?_)
  have iz16 : z16.toInt = i.toInt + 3 := by rw [ez16]; exact (i_add (X := i.toInt) (Y := 3) rfl (by decide) (by have h8 := i_rng (i); have h9 := i_rng (3); omega) (by have h8 := i_rng (i); have h9 := i_rng (3); omega)).trans (by omega)
  refine va_sld hx hb hX hbl hbA hS (i_in (X := i.toInt + 3) iz16 (by omega) (by omega)) dL_law_497 ?_
  refine lv_topi (fun z17 ez17 => ?_)
  refine lv_aload_n hx hb dL_law_498 rfl (lv_at hl 3 rfl) ?_
  refine lv_iload_n hx hb dL_law_499 rfl (lv_at hl 0 rfl) ?_
  refine lv_iconst (v := 4) hx hb dL_law_500 (by decide) ?_
  refine lv_iadd hx hb dL_law_501 ?_
  refine lv_topi (fun z18 ez18 => ?_)
  have iz18 : z18.toInt = i.toInt + 4 := by rw [ez18]; exact (i_add (X := i.toInt) (Y := 4) rfl (by decide) (by have h8 := i_rng (i); have h9 := i_rng (4); omega) (by have h8 := i_rng (i); have h9 := i_rng (4); omega)).trans (by omega)
  refine va_sld hx hb hX hbl hbA hS (i_in (X := i.toInt + 4) iz18 (by omega) (by omega)) dL_law_502 ?_
  refine lv_topi (fun z19 ez19 => ?_)
  refine lv_aload_n hx hb dL_law_503 rfl (lv_at hl 3 rfl) ?_
  refine lv_iload_n hx hb dL_law_504 rfl (lv_at hl 0 rfl) ?_
  refine lv_iconst (v := 5) hx hb dL_law_505 (by decide) ?_
  refine lv_iadd hx hb dL_law_506 ?_
  refine lv_topi (fun z20 ez20 => ?_)
  have iz20 : z20.toInt = i.toInt + 5 := by rw [ez20]; exact (i_add (X := i.toInt) (Y := 5) rfl (by decide) (by have h8 := i_rng (i); have h9 := i_rng (5); omega) (by have h8 := i_rng (i); have h9 := i_rng (5); omega)).trans (by omega)
  refine va_sld hx hb hX hbl hbA hS (i_in (X := i.toInt + 5) iz20 (by omega) (by omega)) dL_law_507 ?_
  refine lv_topi (fun z21 ez21 => ?_)
  obtain ⟨fs, he⟩ := ShM_he hsm (wi ++ wx)
  refine doVA (n := 5) (As := [.int z13, .int z15, .int z17, .int z19, .int z21]) (rest := []) (wc := wm) (wr := wi ++ wx) hx hb hml hown hts hK hP hD hS hA he rfl hE (u_y_palm l D cI cB cJ cZ cT tz adK adV hsm z13 z15 z17 z19 z21) gL_law_X10_palm rfl rfl rfl (by decide +kernel) ⟨Nat.le_of_ble_eq_true rfl, Nat.le_of_ble_eq_true rfl⟩ hl.1 rfl rfl (Nat.le_of_ble_eq_true rfl) dL_law_508 ⟨show cells + 0 + 0 ≤ 600000 from by omega, show slots + 0 + 0 ≤ 7302250 from by omega⟩ (fun u H locs hw hP hD hS => ?_)
  obtain ⟨⟨wm, M2⟩, r22⟩ := u
  obtain ⟨hsm, hrel⟩ := hw
  have hsm : ShM cI cB cJ cZ cT bd M2 wm := hsm
  have e1 : M = M2 := hrel.symm
  subst e1
  have hP := va_P_perm hP (pm_2 wi wx wm)
  have hD := va_D_perm hD (pm_2 wi wx wm)
  refine W.eq (g2 := F0 m 511 ls [.int r22]) rfl ?_
  refine lv_pop hx hb dL_law_511 rfl ?_
  refine lv_goto (tgt := 1241) hx hb dL_law_512 (by decide) ?_
  refine W.widen (k := cells + 24) (n := slots + 957) (by omega) (by omega) ?_
  exact kk TN TF M wx wi wm _ _ _ hsx hsi hsm hTL hP hD hS (lv_sub hl [0, 1, 2, 3] rfl)
set_option maxHeartbeats 4000000 in
set_option maxRecDepth 100000 in
theorem law_9 {p : Program} {e : Env} {s : State} {m : MethodId} {below : List Frame} {meth : Method} {c : Code} (l : Launch) {b L : Nat} {xs : Nat → Int32} (hL : L ≤ 3072) (C0 : lw_At p s m meth c b L xs) {D : va_G} {cI cB cJ cZ cT : ClassId} (hK : KK D (tyL cI cB cJ cZ cT) s) {tz adK adV : Nat → Nat} (hE : EE tz adK adV (fun q : Nat => s.heap.size ≤ q) s s.heap) {ad ai bd : Nat} {TN : Nat → Int32} {TF M : Nat → Nat → Int32} {wx wi wm : va_W} (hsx : ShX cI cB cJ cZ cT ad ai TN TF wx) (hsi : ShI cI cB cJ cZ cT ai M wi) (hsm : ShM cI cB cJ cZ cT bd M wm) (hTL : TLg 0 TN TF M) {H : Heap} {locs : List Loc} (hP : va_P D vwCl (wx ++ (wi ++ wm)) H) (hD : va_D (fun q : Nat => s.heap.size ≤ q) (wx ++ (wi ++ wm))) (hS : va_S (fun q : Nat => s.heap.size ≤ q) s.heap H locs) {ls : Array Slot} {i : Int32} (hi : 0 ≤ i.toInt ∧ i.toInt + 6 ≤ L) (hl : lv_has ls 4 [(3, .int i), (2, .ref bd), (1, .ref ad), (0, .ref b)]) {cells slots : Nat} (hc : cells + 24 ≤ 600000) (hss : slots + 957 ≤ 7302250) (kk : ∀ (TN : Nat → Int32) (TF M : Nat → Nat → Int32) (wx wi wm : va_W) (H : Heap) (locs : List Loc) (ls : Array Slot), ShX cI cB cJ cZ cT ad ai TN TF wx → ShI cI cB cJ cZ cT ai M wi → ShM cI cB cJ cZ cT bd M wm → TLg 0 TN TF M → va_P D vwCl (wx ++ (wi ++ wm)) H → va_D (fun q : Nat => s.heap.size ≤ q) (wx ++ (wi ++ wm)) → va_S (fun q : Nat => s.heap.size ≤ q) s.heap H locs → lv_has ls 4 [(3, .int i), (2, .ref bd), (1, .ref ad), (0, .ref b)] → W p l e room_1 s m #[Value.ref b] below meth c H locs (cells + 24) (slots + 957) (lw_Z below #[Value.ref b] s) (F0 m 1241 ls [])) : W p l e room_1 s m #[Value.ref b] below meth c H locs (cells) (slots) (lw_Z below #[Value.ref b] s) (F0 m 515 ls []) := by
  obtain ⟨hx, hb, hr, hml, hown, hts0, hX, hbl, hlocks, hgv⟩ := id C0
  have hown : s.vm.findClass RL = some m.cls := hown
  have hts : ∀ w ∈ lw_tbl, w.before #[Value.ref b] s = true := hts0
  have hA : ∀ q : Nat, s.heap.size ≤ q → (fun q : Nat => s.heap.size ≤ q) q := fun _ h => h
  have hbA : ¬ (fun q : Nat => s.heap.size ≤ q) b := Nat.not_le.mpr hbl
  refine lv_aload_n hx hb dL_law_515 rfl (lv_at hl 2 rfl) ?_
  refine lv_aload_n hx hb dL_law_516 rfl (lv_at hl 3 rfl) ?_
  refine lv_iload_n hx hb dL_law_517 rfl (lv_at hl 0 rfl) ?_
  refine lv_iconst (v := 1) hx hb dL_law_518 (by decide) ?_
  refine lv_iadd hx hb dL_law_519 ?_
  refine lv_topi (fun z1 ez1 => ?_)
  have iz1 : z1.toInt = i.toInt + 1 := by rw [ez1]; exact (i_add (X := i.toInt) (Y := 1) rfl (by decide) (by have h8 := i_rng (i); have h9 := i_rng (1); omega) (by have h8 := i_rng (i); have h9 := i_rng (1); omega)).trans (by omega)
  refine va_sld hx hb hX hbl hbA hS (i_in (X := i.toInt + 1) iz1 (by omega) (by omega)) dL_law_520 ?_
  refine lv_topi (fun z2 ez2 => ?_)
  refine lv_aload_n hx hb dL_law_521 rfl (lv_at hl 3 rfl) ?_
  refine lv_iload_n hx hb dL_law_522 rfl (lv_at hl 0 rfl) ?_
  refine lv_iconst (v := 2) hx hb dL_law_523 (by decide) ?_
  refine lv_iadd hx hb dL_law_524 ?_
  refine lv_topi (fun z3 ez3 => ?_)
  have iz3 : z3.toInt = i.toInt + 2 := by rw [ez3]; exact (i_add (X := i.toInt) (Y := 2) rfl (by decide) (by have h8 := i_rng (i); have h9 := i_rng (2); omega) (by have h8 := i_rng (i); have h9 := i_rng (2); omega)).trans (by omega)
  refine va_sld hx hb hX hbl hbA hS (i_in (X := i.toInt + 2) iz3 (by omega) (by omega)) dL_law_525 ?_
  refine lv_topi (fun z4 ez4 => ?_)
  refine lv_aload_n hx hb dL_law_526 rfl (lv_at hl 3 rfl) ?_
  refine lv_iload_n hx hb dL_law_527 rfl (lv_at hl 0 rfl) ?_
  refine lv_iconst (v := 3) hx hb dL_law_528 (by decide) ?_
  refine lv_iadd hx hb dL_law_529 ?_
  refine lv_topi (fun z5 ez5 => ?_)
  have iz5 : z5.toInt = i.toInt + 3 := by rw [ez5]; exact (i_add (X := i.toInt) (Y := 3) rfl (by decide) (by have h8 := i_rng (i); have h9 := i_rng (3); omega) (by have h8 := i_rng (i); have h9 := i_rng (3); omega)).trans (by omega)
  refine va_sld hx hb hX hbl hbA hS (i_in (X := i.toInt + 3) iz5 (by omega) (by omega)) dL_law_530 ?_
  refine lv_topi (fun z6 ez6 => ?_)
  refine lv_aload_n hx hb dL_law_531 rfl (lv_at hl 3 rfl) ?_
  refine lv_iload_n hx hb dL_law_532 rfl (lv_at hl 0 rfl) ?_
  refine lv_iconst (v := 4) hx hb dL_law_533 (by decide) ?_
  refine lv_iadd hx hb dL_law_534 ?_
  refine lv_topi (fun z7 ez7 => ?_)
  have iz7 : z7.toInt = i.toInt + 4 := by rw [ez7]; exact (i_add (X := i.toInt) (Y := 4) rfl (by decide) (by have h8 := i_rng (i); have h9 := i_rng (4); omega) (by have h8 := i_rng (i); have h9 := i_rng (4); omega)).trans (by omega)
  refine va_sld hx hb hX hbl hbA hS (i_in (X := i.toInt + 4) iz7 (by omega) (by omega)) dL_law_535 ?_
  refine lv_topi (fun z8 ez8 => ?_)
  refine lv_aload_n hx hb dL_law_536 rfl (lv_at hl 3 rfl) ?_
  refine lv_iload_n hx hb dL_law_537 rfl (lv_at hl 0 rfl) ?_
  refine lv_iconst (v := 5) hx hb dL_law_538 (by decide) ?_
  refine lv_iadd hx hb dL_law_539 ?_
  refine lv_topi (fun z9 ez9 => ?_)
  have iz9 : z9.toInt = i.toInt + 5 := by rw [ez9]; exact (i_add (X := i.toInt) (Y := 5) rfl (by decide) (by have h8 := i_rng (i); have h9 := i_rng (5); omega) (by have h8 := i_rng (i); have h9 := i_rng (5); omega)).trans (by omega)
  refine va_sld hx hb hX hbl hbA hS (i_in (X := i.toInt + 5) iz9 (by omega) (by omega)) dL_law_540 ?_
  refine lv_topi (fun z10 ez10 => ?_)
  obtain ⟨fs, he⟩ := ShX_he hsx (wi ++ wm)
  refine doVA (n := 5) (As := [.int z2, .int z4, .int z6, .int z8, .int z10]) (rest := []) (wc := wx) (wr := wi ++ wm) hx hb hml hown hts hK hP hD hS hA he rfl hE (u_x_actor l D cI cB cJ cZ cT tz adK adV hsx z2 z4 z6 z8 z10) gL_law_X9_actor rfl rfl rfl (by decide +kernel) ⟨Nat.le_of_ble_eq_true rfl, Nat.le_of_ble_eq_true rfl⟩ hl.1 rfl rfl (Nat.le_of_ble_eq_true rfl) dL_law_541 ⟨show cells + 0 ≤ 600000 from by omega, show slots + 0 ≤ 7302250 from by omega⟩ (fun u H locs hw hP hD hS => ?_)
  have hrx := ShX_r hsx
  have hrm := ShM_r hsm
  obtain ⟨⟨wx, ⟨TN2, TF2⟩⟩, r11⟩ := u
  obtain ⟨hsx, hrel⟩ := hw
  have hsx : ShX cI cB cJ cZ cT ad ai TN2 TF2 wx := hsx
  have e1 : TN = TN2 := hrel.1.symm
  have e2 : TF = TF2 := hrel.2.symm
  subst e1
  subst e2
  have hP := va_P_perm hP (pm_1 wi wm wx)
  have hD := va_D_perm hD (pm_1 wi wm wx)
  refine W.eq (g2 := F0 m 544 ls [.int r11]) rfl ?_
  refine lv_pop hx hb dL_law_544 rfl ?_
  refine lv_aload_n hx hb dL_law_545 rfl (lv_at hl 1 rfl) ?_
  refine lv_aload_n hx hb dL_law_546 rfl (lv_at hl 3 rfl) ?_
  refine lv_iload_n hx hb dL_law_547 rfl (lv_at hl 0 rfl) ?_
  refine lv_iconst (v := 1) hx hb dL_law_548 (by decide) ?_
  refine lv_iadd hx hb dL_law_549 ?_
  refine lv_topi (fun z12 ez12 => ?_)
  have iz12 : z12.toInt = i.toInt + 1 := by rw [ez12]; exact (i_add (X := i.toInt) (Y := 1) rfl (by decide) (by have h8 := i_rng (i); have h9 := i_rng (1); omega) (by have h8 := i_rng (i); have h9 := i_rng (1); omega)).trans (by omega)
  refine va_sld hx hb hX hbl hbA hS (i_in (X := i.toInt + 1) iz12 (by omega) (by omega)) dL_law_550 ?_
  refine lv_topi (fun z13 ez13 => ?_)
  refine lv_aload_n hx hb dL_law_551 rfl (lv_at hl 3 rfl) ?_
  refine lv_iload_n hx hb dL_law_552 rfl (lv_at hl 0 rfl) ?_
  refine lv_iconst (v := 2) hx hb dL_law_553 (by decide) ?_
  refine lv_iadd hx hb dL_law_554 ?_
  refine lv_topi (fun z14 ez14 => ?_)
  have iz14 : z14.toInt = i.toInt + 2 := by rw [ez14]; exact (i_add (X := i.toInt) (Y := 2) rfl (by decide) (by have h8 := i_rng (i); have h9 := i_rng (2); omega) (by have h8 := i_rng (i); have h9 := i_rng (2); omega)).trans (by omega)
  refine va_sld hx hb hX hbl hbA hS (i_in (X := i.toInt + 2) iz14 (by omega) (by omega)) dL_law_555 ?_
  refine lv_topi (fun z15 ez15 => ?_)
  refine lv_aload_n hx hb dL_law_556 rfl (lv_at hl 3 rfl) ?_
  refine lv_iload_n hx hb dL_law_557 rfl (lv_at hl 0 rfl) ?_
  refine lv_iconst (v := 3) hx hb dL_law_558 (by decide) ?_
  refine lv_iadd hx hb dL_law_559 ?_
  refine lv_topi (fun z16 ez16 => ?_)
  have iz16 : z16.toInt = i.toInt + 3 := by rw [ez16]; exact (i_add (X := i.toInt) (Y := 3) rfl (by decide) (by have h8 := i_rng (i); have h9 := i_rng (3); omega) (by have h8 := i_rng (i); have h9 := i_rng (3); omega)).trans (by omega)
  refine va_sld hx hb hX hbl hbA hS (i_in (X := i.toInt + 3) iz16 (by omega) (by omega)) dL_law_560 ?_
  refine lv_topi (fun z17 ez17 => ?_)
  refine lv_aload_n hx hb dL_law_561 rfl (lv_at hl 3 rfl) ?_
  refine lv_iload_n hx hb dL_law_562 rfl (lv_at hl 0 rfl) ?_
  refine lv_iconst (v := 4) hx hb dL_law_563 (by decide) ?_
  refine lv_iadd hx hb dL_law_564 ?_
  refine lv_topi (fun z18 ez18 => ?_)
  have iz18 : z18.toInt = i.toInt + 4 := by rw [ez18]; exact (i_add (X := i.toInt) (Y := 4) rfl (by decide) (by have h8 := i_rng (i); have h9 := i_rng (4); omega) (by have h8 := i_rng (i); have h9 := i_rng (4); omega)).trans (by omega)
  refine va_sld hx hb hX hbl hbA hS (i_in (X := i.toInt + 4) iz18 (by omega) (by omega)) dL_law_565 ?_
  refine lv_topi (fun z19 ez19 => ?_)
  refine lv_aload_n hx hb dL_law_566 rfl (lv_at hl 3 rfl) ?_
  refine lv_iload_n hx hb dL_law_567 rfl (lv_at hl 0 rfl) ?_
  refine lv_iconst (v := 5) hx hb dL_law_568 (by decide) ?_
  refine lv_iadd hx hb dL_law_569 ?_
  refine lv_topi (fun z20 ez20 => ?_)
  have iz20 : z20.toInt = i.toInt + 5 := by rw [ez20]; exact (i_add (X := i.toInt) (Y := 5) rfl (by decide) (by have h8 := i_rng (i); have h9 := i_rng (5); omega) (by have h8 := i_rng (i); have h9 := i_rng (5); omega)).trans (by omega)
  refine va_sld hx hb hX hbl hbA hS (i_in (X := i.toInt + 5) iz20 (by omega) (by omega)) dL_law_570 ?_
  refine lv_topi (fun z21 ez21 => ?_)
  obtain ⟨fs, he⟩ := ShM_he hsm (wi ++ wx)
  refine doVA (n := 5) (As := [.int z13, .int z15, .int z17, .int z19, .int z21]) (rest := []) (wc := wm) (wr := wi ++ wx) hx hb hml hown hts hK hP hD hS hA he rfl hE (u_y_actor l D cI cB cJ cZ cT tz adK adV hsm z13 z15 z17 z19 z21) gL_law_X10_actor rfl rfl rfl (by decide +kernel) ⟨Nat.le_of_ble_eq_true rfl, Nat.le_of_ble_eq_true rfl⟩ hl.1 rfl rfl (Nat.le_of_ble_eq_true rfl) dL_law_571 ⟨show cells + 0 + 0 ≤ 600000 from by omega, show slots + 0 + 0 ≤ 7302250 from by omega⟩ (fun u H locs hw hP hD hS => ?_)
  obtain ⟨⟨wm, M2⟩, r22⟩ := u
  obtain ⟨hsm, hrel⟩ := hw
  have hsm : ShM cI cB cJ cZ cT bd M2 wm := hsm
  have e1 : M = M2 := hrel.symm
  subst e1
  have hP := va_P_perm hP (pm_2 wi wx wm)
  have hD := va_D_perm hD (pm_2 wi wx wm)
  refine W.eq (g2 := F0 m 574 ls [.int r22]) rfl ?_
  refine lv_pop hx hb dL_law_574 rfl ?_
  refine lv_goto (tgt := 1241) hx hb dL_law_575 (by decide) ?_
  refine W.widen (k := cells + 24) (n := slots + 957) (by omega) (by omega) ?_
  exact kk TN TF M wx wi wm _ _ _ hsx hsi hsm hTL hP hD hS (lv_sub hl [0, 1, 2, 3] rfl)
set_option maxHeartbeats 4000000 in
set_option maxRecDepth 100000 in
theorem law_10 {p : Program} {e : Env} {s : State} {m : MethodId} {below : List Frame} {meth : Method} {c : Code} (l : Launch) {b L : Nat} {xs : Nat → Int32} (hL : L ≤ 3072) (C0 : lw_At p s m meth c b L xs) {D : va_G} {cI cB cJ cZ cT : ClassId} (hK : KK D (tyL cI cB cJ cZ cT) s) {tz adK adV : Nat → Nat} (hE : EE tz adK adV (fun q : Nat => s.heap.size ≤ q) s s.heap) {ad ai bd : Nat} {TN : Nat → Int32} {TF M : Nat → Nat → Int32} {wx wi wm : va_W} (hsx : ShX cI cB cJ cZ cT ad ai TN TF wx) (hsi : ShI cI cB cJ cZ cT ai M wi) (hsm : ShM cI cB cJ cZ cT bd M wm) (hTL : TLg 0 TN TF M) {H : Heap} {locs : List Loc} (hP : va_P D vwCl (wx ++ (wi ++ wm)) H) (hD : va_D (fun q : Nat => s.heap.size ≤ q) (wx ++ (wi ++ wm))) (hS : va_S (fun q : Nat => s.heap.size ≤ q) s.heap H locs) {ls : Array Slot} {i : Int32} (hi : 0 ≤ i.toInt ∧ i.toInt + 6 ≤ L) (hl : lv_has ls 4 [(3, .int i), (2, .ref bd), (1, .ref ad), (0, .ref b)]) {cells slots : Nat} (hc : cells + 24 ≤ 600000) (hss : slots + 957 ≤ 7302250) (kk : ∀ (TN : Nat → Int32) (TF M : Nat → Nat → Int32) (wx wi wm : va_W) (H : Heap) (locs : List Loc) (ls : Array Slot), ShX cI cB cJ cZ cT ad ai TN TF wx → ShI cI cB cJ cZ cT ai M wi → ShM cI cB cJ cZ cT bd M wm → TLg 0 TN TF M → va_P D vwCl (wx ++ (wi ++ wm)) H → va_D (fun q : Nat => s.heap.size ≤ q) (wx ++ (wi ++ wm)) → va_S (fun q : Nat => s.heap.size ≤ q) s.heap H locs → lv_has ls 4 [(3, .int i), (2, .ref bd), (1, .ref ad), (0, .ref b)] → W p l e room_1 s m #[Value.ref b] below meth c H locs (cells + 24) (slots + 957) (lw_Z below #[Value.ref b] s) (F0 m 1241 ls [])) : W p l e room_1 s m #[Value.ref b] below meth c H locs (cells) (slots) (lw_Z below #[Value.ref b] s) (F0 m 578 ls []) := by
  obtain ⟨hx, hb, hr, hml, hown, hts0, hX, hbl, hlocks, hgv⟩ := id C0
  have hown : s.vm.findClass RL = some m.cls := hown
  have hts : ∀ w ∈ lw_tbl, w.before #[Value.ref b] s = true := hts0
  have hA : ∀ q : Nat, s.heap.size ≤ q → (fun q : Nat => s.heap.size ≤ q) q := fun _ h => h
  have hbA : ¬ (fun q : Nat => s.heap.size ≤ q) b := Nat.not_le.mpr hbl
  refine lv_aload_n hx hb dL_law_578 rfl (lv_at hl 2 rfl) ?_
  refine lv_aload_n hx hb dL_law_579 rfl (lv_at hl 3 rfl) ?_
  refine lv_iload_n hx hb dL_law_580 rfl (lv_at hl 0 rfl) ?_
  refine lv_iconst (v := 1) hx hb dL_law_581 (by decide) ?_
  refine lv_iadd hx hb dL_law_582 ?_
  refine lv_topi (fun z1 ez1 => ?_)
  have iz1 : z1.toInt = i.toInt + 1 := by rw [ez1]; exact (i_add (X := i.toInt) (Y := 1) rfl (by decide) (by have h8 := i_rng (i); have h9 := i_rng (1); omega) (by have h8 := i_rng (i); have h9 := i_rng (1); omega)).trans (by omega)
  refine va_sld hx hb hX hbl hbA hS (i_in (X := i.toInt + 1) iz1 (by omega) (by omega)) dL_law_583 ?_
  refine lv_topi (fun z2 ez2 => ?_)
  refine lv_aload_n hx hb dL_law_584 rfl (lv_at hl 3 rfl) ?_
  refine lv_iload_n hx hb dL_law_585 rfl (lv_at hl 0 rfl) ?_
  refine lv_iconst (v := 2) hx hb dL_law_586 (by decide) ?_
  refine lv_iadd hx hb dL_law_587 ?_
  refine lv_topi (fun z3 ez3 => ?_)
  have iz3 : z3.toInt = i.toInt + 2 := by rw [ez3]; exact (i_add (X := i.toInt) (Y := 2) rfl (by decide) (by have h8 := i_rng (i); have h9 := i_rng (2); omega) (by have h8 := i_rng (i); have h9 := i_rng (2); omega)).trans (by omega)
  refine va_sld hx hb hX hbl hbA hS (i_in (X := i.toInt + 2) iz3 (by omega) (by omega)) dL_law_588 ?_
  refine lv_topi (fun z4 ez4 => ?_)
  refine lv_aload_n hx hb dL_law_589 rfl (lv_at hl 3 rfl) ?_
  refine lv_iload_n hx hb dL_law_590 rfl (lv_at hl 0 rfl) ?_
  refine lv_iconst (v := 3) hx hb dL_law_591 (by decide) ?_
  refine lv_iadd hx hb dL_law_592 ?_
  refine lv_topi (fun z5 ez5 => ?_)
  have iz5 : z5.toInt = i.toInt + 3 := by rw [ez5]; exact (i_add (X := i.toInt) (Y := 3) rfl (by decide) (by have h8 := i_rng (i); have h9 := i_rng (3); omega) (by have h8 := i_rng (i); have h9 := i_rng (3); omega)).trans (by omega)
  refine va_sld hx hb hX hbl hbA hS (i_in (X := i.toInt + 3) iz5 (by omega) (by omega)) dL_law_593 ?_
  refine lv_topi (fun z6 ez6 => ?_)
  refine lv_aload_n hx hb dL_law_594 rfl (lv_at hl 3 rfl) ?_
  refine lv_iload_n hx hb dL_law_595 rfl (lv_at hl 0 rfl) ?_
  refine lv_iconst (v := 4) hx hb dL_law_596 (by decide) ?_
  refine lv_iadd hx hb dL_law_597 ?_
  refine lv_topi (fun z7 ez7 => ?_)
  have iz7 : z7.toInt = i.toInt + 4 := by rw [ez7]; exact (i_add (X := i.toInt) (Y := 4) rfl (by decide) (by have h8 := i_rng (i); have h9 := i_rng (4); omega) (by have h8 := i_rng (i); have h9 := i_rng (4); omega)).trans (by omega)
  refine va_sld hx hb hX hbl hbA hS (i_in (X := i.toInt + 4) iz7 (by omega) (by omega)) dL_law_598 ?_
  refine lv_topi (fun z8 ez8 => ?_)
  obtain ⟨fs, he⟩ := ShX_he hsx (wi ++ wm)
  refine doVA (n := 4) (As := [.int z2, .int z4, .int z6, .int z8]) (rest := []) (wc := wx) (wr := wi ++ wm) hx hb hml hown hts hK hP hD hS hA he rfl hE (u_x_run l D cI cB cJ cZ cT tz adK adV hsx z2 z4 z6 z8) gL_law_X9_run rfl rfl rfl (by decide +kernel) ⟨Nat.le_of_ble_eq_true rfl, Nat.le_of_ble_eq_true rfl⟩ hl.1 rfl rfl (Nat.le_of_ble_eq_true rfl) dL_law_599 ⟨show cells + 0 ≤ 600000 from by omega, show slots + 0 ≤ 7302250 from by omega⟩ (fun u H locs hw hP hD hS => ?_)
  have hrx := ShX_r hsx
  have hrm := ShM_r hsm
  obtain ⟨⟨wx, ⟨TN2, TF2⟩⟩, r9⟩ := u
  obtain ⟨hsx, hrel⟩ := hw
  have hsx : ShX cI cB cJ cZ cT ad ai TN2 TF2 wx := hsx
  have e1 : TN = TN2 := hrel.1.symm
  have e2 : TF = TF2 := hrel.2.symm
  subst e1
  subst e2
  have hP := va_P_perm hP (pm_1 wi wm wx)
  have hD := va_D_perm hD (pm_1 wi wm wx)
  refine W.eq (g2 := F0 m 602 ls [.int r9]) rfl ?_
  refine lv_pop hx hb dL_law_602 rfl ?_
  refine lv_aload_n hx hb dL_law_603 rfl (lv_at hl 1 rfl) ?_
  refine lv_aload_n hx hb dL_law_604 rfl (lv_at hl 3 rfl) ?_
  refine lv_iload_n hx hb dL_law_605 rfl (lv_at hl 0 rfl) ?_
  refine lv_iconst (v := 1) hx hb dL_law_606 (by decide) ?_
  refine lv_iadd hx hb dL_law_607 ?_
  refine lv_topi (fun z10 ez10 => ?_)
  have iz10 : z10.toInt = i.toInt + 1 := by rw [ez10]; exact (i_add (X := i.toInt) (Y := 1) rfl (by decide) (by have h8 := i_rng (i); have h9 := i_rng (1); omega) (by have h8 := i_rng (i); have h9 := i_rng (1); omega)).trans (by omega)
  refine va_sld hx hb hX hbl hbA hS (i_in (X := i.toInt + 1) iz10 (by omega) (by omega)) dL_law_608 ?_
  refine lv_topi (fun z11 ez11 => ?_)
  refine lv_aload_n hx hb dL_law_609 rfl (lv_at hl 3 rfl) ?_
  refine lv_iload_n hx hb dL_law_610 rfl (lv_at hl 0 rfl) ?_
  refine lv_iconst (v := 2) hx hb dL_law_611 (by decide) ?_
  refine lv_iadd hx hb dL_law_612 ?_
  refine lv_topi (fun z12 ez12 => ?_)
  have iz12 : z12.toInt = i.toInt + 2 := by rw [ez12]; exact (i_add (X := i.toInt) (Y := 2) rfl (by decide) (by have h8 := i_rng (i); have h9 := i_rng (2); omega) (by have h8 := i_rng (i); have h9 := i_rng (2); omega)).trans (by omega)
  refine va_sld hx hb hX hbl hbA hS (i_in (X := i.toInt + 2) iz12 (by omega) (by omega)) dL_law_613 ?_
  refine lv_topi (fun z13 ez13 => ?_)
  refine lv_aload_n hx hb dL_law_614 rfl (lv_at hl 3 rfl) ?_
  refine lv_iload_n hx hb dL_law_615 rfl (lv_at hl 0 rfl) ?_
  refine lv_iconst (v := 3) hx hb dL_law_616 (by decide) ?_
  refine lv_iadd hx hb dL_law_617 ?_
  refine lv_topi (fun z14 ez14 => ?_)
  have iz14 : z14.toInt = i.toInt + 3 := by rw [ez14]; exact (i_add (X := i.toInt) (Y := 3) rfl (by decide) (by have h8 := i_rng (i); have h9 := i_rng (3); omega) (by have h8 := i_rng (i); have h9 := i_rng (3); omega)).trans (by omega)
  refine va_sld hx hb hX hbl hbA hS (i_in (X := i.toInt + 3) iz14 (by omega) (by omega)) dL_law_618 ?_
  refine lv_topi (fun z15 ez15 => ?_)
  refine lv_aload_n hx hb dL_law_619 rfl (lv_at hl 3 rfl) ?_
  refine lv_iload_n hx hb dL_law_620 rfl (lv_at hl 0 rfl) ?_
  refine lv_iconst (v := 4) hx hb dL_law_621 (by decide) ?_
  refine lv_iadd hx hb dL_law_622 ?_
  refine lv_topi (fun z16 ez16 => ?_)
  have iz16 : z16.toInt = i.toInt + 4 := by rw [ez16]; exact (i_add (X := i.toInt) (Y := 4) rfl (by decide) (by have h8 := i_rng (i); have h9 := i_rng (4); omega) (by have h8 := i_rng (i); have h9 := i_rng (4); omega)).trans (by omega)
  refine va_sld hx hb hX hbl hbA hS (i_in (X := i.toInt + 4) iz16 (by omega) (by omega)) dL_law_623 ?_
  refine lv_topi (fun z17 ez17 => ?_)
  obtain ⟨fs, he⟩ := ShM_he hsm (wi ++ wx)
  refine doVA (n := 4) (As := [.int z11, .int z13, .int z15, .int z17]) (rest := []) (wc := wm) (wr := wi ++ wx) hx hb hml hown hts hK hP hD hS hA he rfl hE (u_y_run l D cI cB cJ cZ cT tz adK adV hsm z11 z13 z15 z17) gL_law_X10_run rfl rfl rfl (by decide +kernel) ⟨Nat.le_of_ble_eq_true rfl, Nat.le_of_ble_eq_true rfl⟩ hl.1 rfl rfl (Nat.le_of_ble_eq_true rfl) dL_law_624 ⟨show cells + 0 + 0 ≤ 600000 from by omega, show slots + 0 + 0 ≤ 7302250 from by omega⟩ (fun u H locs hw hP hD hS => ?_)
  obtain ⟨⟨wm, M2⟩, r18⟩ := u
  obtain ⟨hsm, hrel⟩ := hw
  have hsm : ShM cI cB cJ cZ cT bd M2 wm := hsm
  have e1 : M = M2 := hrel.symm
  subst e1
  have hP := va_P_perm hP (pm_2 wi wx wm)
  have hD := va_D_perm hD (pm_2 wi wx wm)
  refine W.eq (g2 := F0 m 627 ls [.int r18]) rfl ?_
  refine lv_pop hx hb dL_law_627 rfl ?_
  refine lv_goto (tgt := 1241) hx hb dL_law_628 (by decide) ?_
  refine W.widen (k := cells + 24) (n := slots + 957) (by omega) (by omega) ?_
  exact kk TN TF M wx wi wm _ _ _ hsx hsi hsm hTL hP hD hS (lv_sub hl [0, 1, 2, 3] rfl)
set_option maxHeartbeats 4000000 in
set_option maxRecDepth 100000 in
theorem law_11 {p : Program} {e : Env} {s : State} {m : MethodId} {below : List Frame} {meth : Method} {c : Code} (l : Launch) {b L : Nat} {xs : Nat → Int32} (hL : L ≤ 3072) (C0 : lw_At p s m meth c b L xs) {D : va_G} {cI cB cJ cZ cT : ClassId} (hK : KK D (tyL cI cB cJ cZ cT) s) {tz adK adV : Nat → Nat} (hE : EE tz adK adV (fun q : Nat => s.heap.size ≤ q) s s.heap) {ad ai bd : Nat} {TN : Nat → Int32} {TF M : Nat → Nat → Int32} {wx wi wm : va_W} (hsx : ShX cI cB cJ cZ cT ad ai TN TF wx) (hsi : ShI cI cB cJ cZ cT ai M wi) (hsm : ShM cI cB cJ cZ cT bd M wm) (hTL : TLg 0 TN TF M) {H : Heap} {locs : List Loc} (hP : va_P D vwCl (wx ++ (wi ++ wm)) H) (hD : va_D (fun q : Nat => s.heap.size ≤ q) (wx ++ (wi ++ wm))) (hS : va_S (fun q : Nat => s.heap.size ≤ q) s.heap H locs) {ls : Array Slot} {i : Int32} (hi : 0 ≤ i.toInt ∧ i.toInt + 6 ≤ L) (hl : lv_has ls 4 [(3, .int i), (2, .ref bd), (1, .ref ad), (0, .ref b)]) {cells slots : Nat} (hc : cells + 24 ≤ 600000) (hss : slots + 957 ≤ 7302250) (kk : ∀ (TN : Nat → Int32) (TF M : Nat → Nat → Int32) (wx wi wm : va_W) (H : Heap) (locs : List Loc) (ls : Array Slot), ShX cI cB cJ cZ cT ad ai TN TF wx → ShI cI cB cJ cZ cT ai M wi → ShM cI cB cJ cZ cT bd M wm → TLg 0 TN TF M → va_P D vwCl (wx ++ (wi ++ wm)) H → va_D (fun q : Nat => s.heap.size ≤ q) (wx ++ (wi ++ wm)) → va_S (fun q : Nat => s.heap.size ≤ q) s.heap H locs → lv_has ls 4 [(3, .int i), (2, .ref bd), (1, .ref ad), (0, .ref b)] → W p l e room_1 s m #[Value.ref b] below meth c H locs (cells + 24) (slots + 957) (lw_Z below #[Value.ref b] s) (F0 m 1241 ls [])) : W p l e room_1 s m #[Value.ref b] below meth c H locs (cells) (slots) (lw_Z below #[Value.ref b] s) (F0 m 631 ls []) := by
  obtain ⟨hx, hb, hr, hml, hown, hts0, hX, hbl, hlocks, hgv⟩ := id C0
  have hown : s.vm.findClass RL = some m.cls := hown
  have hts : ∀ w ∈ lw_tbl, w.before #[Value.ref b] s = true := hts0
  have hA : ∀ q : Nat, s.heap.size ≤ q → (fun q : Nat => s.heap.size ≤ q) q := fun _ h => h
  have hbA : ¬ (fun q : Nat => s.heap.size ≤ q) b := Nat.not_le.mpr hbl
  refine lv_aload_n hx hb dL_law_631 rfl (lv_at hl 2 rfl) ?_
  refine lv_aload_n hx hb dL_law_632 rfl (lv_at hl 3 rfl) ?_
  refine lv_iload_n hx hb dL_law_633 rfl (lv_at hl 0 rfl) ?_
  refine lv_iconst (v := 1) hx hb dL_law_634 (by decide) ?_
  refine lv_iadd hx hb dL_law_635 ?_
  refine lv_topi (fun z1 ez1 => ?_)
  have iz1 : z1.toInt = i.toInt + 1 := by rw [ez1]; exact (i_add (X := i.toInt) (Y := 1) rfl (by decide) (by have h8 := i_rng (i); have h9 := i_rng (1); omega) (by have h8 := i_rng (i); have h9 := i_rng (1); omega)).trans (by omega)
  refine va_sld hx hb hX hbl hbA hS (i_in (X := i.toInt + 1) iz1 (by omega) (by omega)) dL_law_636 ?_
  refine lv_topi (fun z2 ez2 => ?_)
  refine lv_aload_n hx hb dL_law_637 rfl (lv_at hl 3 rfl) ?_
  refine lv_iload_n hx hb dL_law_638 rfl (lv_at hl 0 rfl) ?_
  refine lv_iconst (v := 2) hx hb dL_law_639 (by decide) ?_
  refine lv_iadd hx hb dL_law_640 ?_
  refine lv_topi (fun z3 ez3 => ?_)
  have iz3 : z3.toInt = i.toInt + 2 := by rw [ez3]; exact (i_add (X := i.toInt) (Y := 2) rfl (by decide) (by have h8 := i_rng (i); have h9 := i_rng (2); omega) (by have h8 := i_rng (i); have h9 := i_rng (2); omega)).trans (by omega)
  refine va_sld hx hb hX hbl hbA hS (i_in (X := i.toInt + 2) iz3 (by omega) (by omega)) dL_law_641 ?_
  refine lv_topi (fun z4 ez4 => ?_)
  refine lv_aload_n hx hb dL_law_642 rfl (lv_at hl 3 rfl) ?_
  refine lv_iload_n hx hb dL_law_643 rfl (lv_at hl 0 rfl) ?_
  refine lv_iconst (v := 3) hx hb dL_law_644 (by decide) ?_
  refine lv_iadd hx hb dL_law_645 ?_
  refine lv_topi (fun z5 ez5 => ?_)
  have iz5 : z5.toInt = i.toInt + 3 := by rw [ez5]; exact (i_add (X := i.toInt) (Y := 3) rfl (by decide) (by have h8 := i_rng (i); have h9 := i_rng (3); omega) (by have h8 := i_rng (i); have h9 := i_rng (3); omega)).trans (by omega)
  refine va_sld hx hb hX hbl hbA hS (i_in (X := i.toInt + 3) iz5 (by omega) (by omega)) dL_law_646 ?_
  refine lv_topi (fun z6 ez6 => ?_)
  refine lv_aload_n hx hb dL_law_647 rfl (lv_at hl 3 rfl) ?_
  refine lv_iload_n hx hb dL_law_648 rfl (lv_at hl 0 rfl) ?_
  refine lv_iconst (v := 4) hx hb dL_law_649 (by decide) ?_
  refine lv_iadd hx hb dL_law_650 ?_
  refine lv_topi (fun z7 ez7 => ?_)
  have iz7 : z7.toInt = i.toInt + 4 := by rw [ez7]; exact (i_add (X := i.toInt) (Y := 4) rfl (by decide) (by have h8 := i_rng (i); have h9 := i_rng (4); omega) (by have h8 := i_rng (i); have h9 := i_rng (4); omega)).trans (by omega)
  refine va_sld hx hb hX hbl hbA hS (i_in (X := i.toInt + 4) iz7 (by omega) (by omega)) dL_law_651 ?_
  refine lv_topi (fun z8 ez8 => ?_)
  obtain ⟨fs, he⟩ := ShX_he hsx (wi ++ wm)
  refine doVA (n := 4) (As := [.int z2, .int z4, .int z6, .int z8]) (rest := []) (wc := wx) (wr := wi ++ wm) hx hb hml hown hts hK hP hD hS hA he rfl hE (u_x_feast l D cI cB cJ cZ cT tz adK adV hsx z2 z4 z6 z8) gL_law_X9_feast rfl rfl rfl (by decide +kernel) ⟨Nat.le_of_ble_eq_true rfl, Nat.le_of_ble_eq_true rfl⟩ hl.1 rfl rfl (Nat.le_of_ble_eq_true rfl) dL_law_652 ⟨show cells + 0 ≤ 600000 from by omega, show slots + 0 ≤ 7302250 from by omega⟩ (fun u H locs hw hP hD hS => ?_)
  have hrx := ShX_r hsx
  have hrm := ShM_r hsm
  obtain ⟨⟨wx, ⟨TN2, TF2⟩⟩, r9⟩ := u
  obtain ⟨hsx, hrel⟩ := hw
  have hsx : ShX cI cB cJ cZ cT ad ai TN2 TF2 wx := hsx
  have e1 : TN = TN2 := hrel.1.symm
  have e2 : TF = TF2 := hrel.2.symm
  subst e1
  subst e2
  have hP := va_P_perm hP (pm_1 wi wm wx)
  have hD := va_D_perm hD (pm_1 wi wm wx)
  refine W.eq (g2 := F0 m 655 ls [.int r9]) rfl ?_
  refine lv_pop hx hb dL_law_655 rfl ?_
  refine lv_aload_n hx hb dL_law_656 rfl (lv_at hl 1 rfl) ?_
  refine lv_aload_n hx hb dL_law_657 rfl (lv_at hl 3 rfl) ?_
  refine lv_iload_n hx hb dL_law_658 rfl (lv_at hl 0 rfl) ?_
  refine lv_iconst (v := 1) hx hb dL_law_659 (by decide) ?_
  refine lv_iadd hx hb dL_law_660 ?_
  refine lv_topi (fun z10 ez10 => ?_)
  have iz10 : z10.toInt = i.toInt + 1 := by rw [ez10]; exact (i_add (X := i.toInt) (Y := 1) rfl (by decide) (by have h8 := i_rng (i); have h9 := i_rng (1); omega) (by have h8 := i_rng (i); have h9 := i_rng (1); omega)).trans (by omega)
  refine va_sld hx hb hX hbl hbA hS (i_in (X := i.toInt + 1) iz10 (by omega) (by omega)) dL_law_661 ?_
  refine lv_topi (fun z11 ez11 => ?_)
  refine lv_aload_n hx hb dL_law_662 rfl (lv_at hl 3 rfl) ?_
  refine lv_iload_n hx hb dL_law_663 rfl (lv_at hl 0 rfl) ?_
  refine lv_iconst (v := 2) hx hb dL_law_664 (by decide) ?_
  refine lv_iadd hx hb dL_law_665 ?_
  refine lv_topi (fun z12 ez12 => ?_)
  have iz12 : z12.toInt = i.toInt + 2 := by rw [ez12]; exact (i_add (X := i.toInt) (Y := 2) rfl (by decide) (by have h8 := i_rng (i); have h9 := i_rng (2); omega) (by have h8 := i_rng (i); have h9 := i_rng (2); omega)).trans (by omega)
  refine va_sld hx hb hX hbl hbA hS (i_in (X := i.toInt + 2) iz12 (by omega) (by omega)) dL_law_666 ?_
  refine lv_topi (fun z13 ez13 => ?_)
  refine lv_aload_n hx hb dL_law_667 rfl (lv_at hl 3 rfl) ?_
  refine lv_iload_n hx hb dL_law_668 rfl (lv_at hl 0 rfl) ?_
  refine lv_iconst (v := 3) hx hb dL_law_669 (by decide) ?_
  refine lv_iadd hx hb dL_law_670 ?_
  refine lv_topi (fun z14 ez14 => ?_)
  have iz14 : z14.toInt = i.toInt + 3 := by rw [ez14]; exact (i_add (X := i.toInt) (Y := 3) rfl (by decide) (by have h8 := i_rng (i); have h9 := i_rng (3); omega) (by have h8 := i_rng (i); have h9 := i_rng (3); omega)).trans (by omega)
  refine va_sld hx hb hX hbl hbA hS (i_in (X := i.toInt + 3) iz14 (by omega) (by omega)) dL_law_671 ?_
  refine lv_topi (fun z15 ez15 => ?_)
  refine lv_aload_n hx hb dL_law_672 rfl (lv_at hl 3 rfl) ?_
  refine lv_iload_n hx hb dL_law_673 rfl (lv_at hl 0 rfl) ?_
  refine lv_iconst (v := 4) hx hb dL_law_674 (by decide) ?_
  refine lv_iadd hx hb dL_law_675 ?_
  refine lv_topi (fun z16 ez16 => ?_)
  have iz16 : z16.toInt = i.toInt + 4 := by rw [ez16]; exact (i_add (X := i.toInt) (Y := 4) rfl (by decide) (by have h8 := i_rng (i); have h9 := i_rng (4); omega) (by have h8 := i_rng (i); have h9 := i_rng (4); omega)).trans (by omega)
  refine va_sld hx hb hX hbl hbA hS (i_in (X := i.toInt + 4) iz16 (by omega) (by omega)) dL_law_676 ?_
  refine lv_topi (fun z17 ez17 => ?_)
  obtain ⟨fs, he⟩ := ShM_he hsm (wi ++ wx)
  refine doVA (n := 4) (As := [.int z11, .int z13, .int z15, .int z17]) (rest := []) (wc := wm) (wr := wi ++ wx) hx hb hml hown hts hK hP hD hS hA he rfl hE (u_y_feast l D cI cB cJ cZ cT tz adK adV hsm z11 z13 z15 z17) gL_law_X10_feast rfl rfl rfl (by decide +kernel) ⟨Nat.le_of_ble_eq_true rfl, Nat.le_of_ble_eq_true rfl⟩ hl.1 rfl rfl (Nat.le_of_ble_eq_true rfl) dL_law_677 ⟨show cells + 0 + 0 ≤ 600000 from by omega, show slots + 0 + 0 ≤ 7302250 from by omega⟩ (fun u H locs hw hP hD hS => ?_)
  obtain ⟨⟨wm, M2⟩, r18⟩ := u
  obtain ⟨hsm, hrel⟩ := hw
  have hsm : ShM cI cB cJ cZ cT bd M2 wm := hsm
  have e1 : M = M2 := hrel.symm
  subst e1
  have hP := va_P_perm hP (pm_2 wi wx wm)
  have hD := va_D_perm hD (pm_2 wi wx wm)
  refine W.eq (g2 := F0 m 680 ls [.int r18]) rfl ?_
  refine lv_pop hx hb dL_law_680 rfl ?_
  refine lv_goto (tgt := 1241) hx hb dL_law_681 (by decide) ?_
  refine W.widen (k := cells + 24) (n := slots + 957) (by omega) (by omega) ?_
  exact kk TN TF M wx wi wm _ _ _ hsx hsi hsm hTL hP hD hS (lv_sub hl [0, 1, 2, 3] rfl)
set_option maxHeartbeats 4000000 in
set_option maxRecDepth 100000 in
theorem law_12 {p : Program} {e : Env} {s : State} {m : MethodId} {below : List Frame} {meth : Method} {c : Code} (l : Launch) {b L : Nat} {xs : Nat → Int32} (hL : L ≤ 3072) (C0 : lw_At p s m meth c b L xs) {D : va_G} {cI cB cJ cZ cT : ClassId} (hK : KK D (tyL cI cB cJ cZ cT) s) {tz adK adV : Nat → Nat} (hE : EE tz adK adV (fun q : Nat => s.heap.size ≤ q) s s.heap) {ad ai bd : Nat} {TN : Nat → Int32} {TF M : Nat → Nat → Int32} {wx wi wm : va_W} (hsx : ShX cI cB cJ cZ cT ad ai TN TF wx) (hsi : ShI cI cB cJ cZ cT ai M wi) (hsm : ShM cI cB cJ cZ cT bd M wm) (hTL : TLg 0 TN TF M) {H : Heap} {locs : List Loc} (hP : va_P D vwCl (wx ++ (wi ++ wm)) H) (hD : va_D (fun q : Nat => s.heap.size ≤ q) (wx ++ (wi ++ wm))) (hS : va_S (fun q : Nat => s.heap.size ≤ q) s.heap H locs) {ls : Array Slot} {i : Int32} (hi : 0 ≤ i.toInt ∧ i.toInt + 6 ≤ L) (hl : lv_has ls 4 [(3, .int i), (2, .ref bd), (1, .ref ad), (0, .ref b)]) {cells slots : Nat} (hc : cells + 24 ≤ 600000) (hss : slots + 957 ≤ 7302250) (kk : ∀ (TN : Nat → Int32) (TF M : Nat → Nat → Int32) (wx wi wm : va_W) (H : Heap) (locs : List Loc) (ls : Array Slot), ShX cI cB cJ cZ cT ad ai TN TF wx → ShI cI cB cJ cZ cT ai M wi → ShM cI cB cJ cZ cT bd M wm → TLg 0 TN TF M → va_P D vwCl (wx ++ (wi ++ wm)) H → va_D (fun q : Nat => s.heap.size ≤ q) (wx ++ (wi ++ wm)) → va_S (fun q : Nat => s.heap.size ≤ q) s.heap H locs → lv_has ls 4 [(3, .int i), (2, .ref bd), (1, .ref ad), (0, .ref b)] → W p l e room_1 s m #[Value.ref b] below meth c H locs (cells + 24) (slots + 957) (lw_Z below #[Value.ref b] s) (F0 m 1241 ls [])) : W p l e room_1 s m #[Value.ref b] below meth c H locs (cells) (slots) (lw_Z below #[Value.ref b] s) (F0 m 684 ls []) := by
  obtain ⟨hx, hb, hr, hml, hown, hts0, hX, hbl, hlocks, hgv⟩ := id C0
  have hown : s.vm.findClass RL = some m.cls := hown
  have hts : ∀ w ∈ lw_tbl, w.before #[Value.ref b] s = true := hts0
  have hA : ∀ q : Nat, s.heap.size ≤ q → (fun q : Nat => s.heap.size ≤ q) q := fun _ h => h
  have hbA : ¬ (fun q : Nat => s.heap.size ≤ q) b := Nat.not_le.mpr hbl
  refine lv_aload_n hx hb dL_law_684 rfl (lv_at hl 2 rfl) ?_
  refine lv_aload_n hx hb dL_law_685 rfl (lv_at hl 3 rfl) ?_
  refine lv_iload_n hx hb dL_law_686 rfl (lv_at hl 0 rfl) ?_
  refine lv_iconst (v := 1) hx hb dL_law_687 (by decide) ?_
  refine lv_iadd hx hb dL_law_688 ?_
  refine lv_topi (fun z1 ez1 => ?_)
  have iz1 : z1.toInt = i.toInt + 1 := by rw [ez1]; exact (i_add (X := i.toInt) (Y := 1) rfl (by decide) (by have h8 := i_rng (i); have h9 := i_rng (1); omega) (by have h8 := i_rng (i); have h9 := i_rng (1); omega)).trans (by omega)
  refine va_sld hx hb hX hbl hbA hS (i_in (X := i.toInt + 1) iz1 (by omega) (by omega)) dL_law_689 ?_
  refine lv_topi (fun z2 ez2 => ?_)
  refine lv_aload_n hx hb dL_law_690 rfl (lv_at hl 3 rfl) ?_
  refine lv_iload_n hx hb dL_law_691 rfl (lv_at hl 0 rfl) ?_
  refine lv_iconst (v := 2) hx hb dL_law_692 (by decide) ?_
  refine lv_iadd hx hb dL_law_693 ?_
  refine lv_topi (fun z3 ez3 => ?_)
  have iz3 : z3.toInt = i.toInt + 2 := by rw [ez3]; exact (i_add (X := i.toInt) (Y := 2) rfl (by decide) (by have h8 := i_rng (i); have h9 := i_rng (2); omega) (by have h8 := i_rng (i); have h9 := i_rng (2); omega)).trans (by omega)
  refine va_sld hx hb hX hbl hbA hS (i_in (X := i.toInt + 2) iz3 (by omega) (by omega)) dL_law_694 ?_
  refine lv_topi (fun z4 ez4 => ?_)
  refine lv_aload_n hx hb dL_law_695 rfl (lv_at hl 3 rfl) ?_
  refine lv_iload_n hx hb dL_law_696 rfl (lv_at hl 0 rfl) ?_
  refine lv_iconst (v := 3) hx hb dL_law_697 (by decide) ?_
  refine lv_iadd hx hb dL_law_698 ?_
  refine lv_topi (fun z5 ez5 => ?_)
  have iz5 : z5.toInt = i.toInt + 3 := by rw [ez5]; exact (i_add (X := i.toInt) (Y := 3) rfl (by decide) (by have h8 := i_rng (i); have h9 := i_rng (3); omega) (by have h8 := i_rng (i); have h9 := i_rng (3); omega)).trans (by omega)
  refine va_sld hx hb hX hbl hbA hS (i_in (X := i.toInt + 3) iz5 (by omega) (by omega)) dL_law_699 ?_
  refine lv_topi (fun z6 ez6 => ?_)
  refine lv_aload_n hx hb dL_law_700 rfl (lv_at hl 3 rfl) ?_
  refine lv_iload_n hx hb dL_law_701 rfl (lv_at hl 0 rfl) ?_
  refine lv_iconst (v := 4) hx hb dL_law_702 (by decide) ?_
  refine lv_iadd hx hb dL_law_703 ?_
  refine lv_topi (fun z7 ez7 => ?_)
  have iz7 : z7.toInt = i.toInt + 4 := by rw [ez7]; exact (i_add (X := i.toInt) (Y := 4) rfl (by decide) (by have h8 := i_rng (i); have h9 := i_rng (4); omega) (by have h8 := i_rng (i); have h9 := i_rng (4); omega)).trans (by omega)
  refine va_sld hx hb hX hbl hbA hS (i_in (X := i.toInt + 4) iz7 (by omega) (by omega)) dL_law_704 ?_
  refine lv_topi (fun z8 ez8 => ?_)
  refine bi_eq (tgt := 712) (X := z8.toInt) hx hb rfl dL_law_705 (by decide) (fun c9 => ?_) (fun c9 => ?_)
  · skip
    refine lv_iconst (v := 0) hx hb dL_law_712 (by decide) ?_
    obtain ⟨fs, he⟩ := ShX_he hsx (wi ++ wm)
    refine doVA (n := 4) (As := [.int z2, .int z4, .int z6, .int 0]) (rest := []) (wc := wx) (wr := wi ++ wm) hx hb hml hown hts hK hP hD hS hA he rfl hE (u_x_fair l D cI cB cJ cZ cT tz adK adV hsx z2 z4 z6 0) gL_law_X9_fair rfl rfl rfl (by decide +kernel) ⟨Nat.le_of_ble_eq_true rfl, Nat.le_of_ble_eq_true rfl⟩ hl.1 rfl rfl (Nat.le_of_ble_eq_true rfl) dL_law_713 ⟨show cells + 0 ≤ 600000 from by omega, show slots + 0 ≤ 7302250 from by omega⟩ (fun u H locs hw hP hD hS => ?_)
    have hrx := ShX_r hsx
    have hrm := ShM_r hsm
    obtain ⟨⟨wx, ⟨TN2, TF2⟩⟩, r10⟩ := u
    obtain ⟨hsx, hrel⟩ := hw
    have hsx : ShX cI cB cJ cZ cT ad ai TN2 TF2 wx := hsx
    have e1 : TN = TN2 := hrel.1.symm
    have e2 : TF = TF2 := hrel.2.symm
    subst e1
    subst e2
    have hP := va_P_perm hP (pm_1 wi wm wx)
    have hD := va_D_perm hD (pm_1 wi wm wx)
    refine W.eq (g2 := F0 m 716 ls [.int r10]) rfl ?_
    refine lv_pop hx hb dL_law_716 rfl ?_
    refine lv_aload_n hx hb dL_law_717 rfl (lv_at hl 1 rfl) ?_
    refine lv_aload_n hx hb dL_law_718 rfl (lv_at hl 3 rfl) ?_
    refine lv_iload_n hx hb dL_law_719 rfl (lv_at hl 0 rfl) ?_
    refine lv_iconst (v := 1) hx hb dL_law_720 (by decide) ?_
    refine lv_iadd hx hb dL_law_721 ?_
    refine lv_topi (fun z11 ez11 => ?_)
    have iz11 : z11.toInt = i.toInt + 1 := by rw [ez11]; exact (i_add (X := i.toInt) (Y := 1) rfl (by decide) (by have h8 := i_rng (i); have h9 := i_rng (1); omega) (by have h8 := i_rng (i); have h9 := i_rng (1); omega)).trans (by omega)
    refine va_sld hx hb hX hbl hbA hS (i_in (X := i.toInt + 1) iz11 (by omega) (by omega)) dL_law_722 ?_
    refine lv_topi (fun z12 ez12 => ?_)
    refine lv_aload_n hx hb dL_law_723 rfl (lv_at hl 3 rfl) ?_
    refine lv_iload_n hx hb dL_law_724 rfl (lv_at hl 0 rfl) ?_
    refine lv_iconst (v := 2) hx hb dL_law_725 (by decide) ?_
    refine lv_iadd hx hb dL_law_726 ?_
    refine lv_topi (fun z13 ez13 => ?_)
    have iz13 : z13.toInt = i.toInt + 2 := by rw [ez13]; exact (i_add (X := i.toInt) (Y := 2) rfl (by decide) (by have h8 := i_rng (i); have h9 := i_rng (2); omega) (by have h8 := i_rng (i); have h9 := i_rng (2); omega)).trans (by omega)
    refine va_sld hx hb hX hbl hbA hS (i_in (X := i.toInt + 2) iz13 (by omega) (by omega)) dL_law_727 ?_
    refine lv_topi (fun z14 ez14 => ?_)
    refine lv_aload_n hx hb dL_law_728 rfl (lv_at hl 3 rfl) ?_
    refine lv_iload_n hx hb dL_law_729 rfl (lv_at hl 0 rfl) ?_
    refine lv_iconst (v := 3) hx hb dL_law_730 (by decide) ?_
    refine lv_iadd hx hb dL_law_731 ?_
    refine lv_topi (fun z15 ez15 => ?_)
    have iz15 : z15.toInt = i.toInt + 3 := by rw [ez15]; exact (i_add (X := i.toInt) (Y := 3) rfl (by decide) (by have h8 := i_rng (i); have h9 := i_rng (3); omega) (by have h8 := i_rng (i); have h9 := i_rng (3); omega)).trans (by omega)
    refine va_sld hx hb hX hbl hbA hS (i_in (X := i.toInt + 3) iz15 (by omega) (by omega)) dL_law_732 ?_
    refine lv_topi (fun z16 ez16 => ?_)
    refine lv_aload_n hx hb dL_law_733 rfl (lv_at hl 3 rfl) ?_
    refine lv_iload_n hx hb dL_law_734 rfl (lv_at hl 0 rfl) ?_
    refine lv_iconst (v := 4) hx hb dL_law_735 (by decide) ?_
    refine lv_iadd hx hb dL_law_736 ?_
    refine lv_topi (fun z17 ez17 => ?_)
    have iz17 : z17.toInt = i.toInt + 4 := by rw [ez17]; exact (i_add (X := i.toInt) (Y := 4) rfl (by decide) (by have h8 := i_rng (i); have h9 := i_rng (4); omega) (by have h8 := i_rng (i); have h9 := i_rng (4); omega)).trans (by omega)
    refine va_sld hx hb hX hbl hbA hS (i_in (X := i.toInt + 4) iz17 (by omega) (by omega)) dL_law_737 ?_
    refine lv_topi (fun z18 ez18 => ?_)
    have hsb19 : z18 = z8 := by rw [ez18, ez8, ez17, ez7]
    refine bi_eq (tgt := 745) (X := z18.toInt) hx hb rfl dL_law_738 (by decide) (fun _ => ?_) (fun h => absurd (show z18.toInt = 0 from by rw [hsb19]; omega) h)
    refine lv_iconst (v := 0) hx hb dL_law_745 (by decide) ?_
    obtain ⟨fs, he⟩ := ShM_he hsm (wi ++ wx)
    refine doVA (n := 4) (As := [.int z12, .int z14, .int z16, .int 0]) (rest := []) (wc := wm) (wr := wi ++ wx) hx hb hml hown hts hK hP hD hS hA he rfl hE (u_y_fair l D cI cB cJ cZ cT tz adK adV hsm z12 z14 z16 0) gL_law_X10_fair rfl rfl rfl (by decide +kernel) ⟨Nat.le_of_ble_eq_true rfl, Nat.le_of_ble_eq_true rfl⟩ hl.1 rfl rfl (Nat.le_of_ble_eq_true rfl) dL_law_746 ⟨show cells + 0 + 0 ≤ 600000 from by omega, show slots + 0 + 0 ≤ 7302250 from by omega⟩ (fun u H locs hw hP hD hS => ?_)
    obtain ⟨⟨wm, M2⟩, r20⟩ := u
    obtain ⟨hsm, hrel⟩ := hw
    have hsm : ShM cI cB cJ cZ cT bd M2 wm := hsm
    have e1 : M = M2 := hrel.symm
    subst e1
    have hP := va_P_perm hP (pm_2 wi wx wm)
    have hD := va_D_perm hD (pm_2 wi wx wm)
    refine W.eq (g2 := F0 m 749 ls [.int r20]) rfl ?_
    refine lv_pop hx hb dL_law_749 rfl ?_
    refine lv_goto (tgt := 1241) hx hb dL_law_750 (by decide) ?_
    refine W.widen (k := cells + 24) (n := slots + 957) (by omega) (by omega) ?_
    exact kk TN TF M wx wi wm _ _ _ hsx hsi hsm hTL hP hD hS (lv_sub hl [0, 1, 2, 3] rfl)
  · skip
    refine lv_iconst (v := 1) hx hb dL_law_708 (by decide) ?_
    refine lv_goto (tgt := 713) hx hb dL_law_709 (by decide) ?_
    obtain ⟨fs, he⟩ := ShX_he hsx (wi ++ wm)
    refine doVA (n := 4) (As := [.int z2, .int z4, .int z6, .int 1]) (rest := []) (wc := wx) (wr := wi ++ wm) hx hb hml hown hts hK hP hD hS hA he rfl hE (u_x_fair l D cI cB cJ cZ cT tz adK adV hsx z2 z4 z6 1) gL_law_X9_fair rfl rfl rfl (by decide +kernel) ⟨Nat.le_of_ble_eq_true rfl, Nat.le_of_ble_eq_true rfl⟩ hl.1 rfl rfl (Nat.le_of_ble_eq_true rfl) dL_law_713 ⟨show cells + 0 ≤ 600000 from by omega, show slots + 0 ≤ 7302250 from by omega⟩ (fun u H locs hw hP hD hS => ?_)
    have hrx := ShX_r hsx
    have hrm := ShM_r hsm
    obtain ⟨⟨wx, ⟨TN2, TF2⟩⟩, r21⟩ := u
    obtain ⟨hsx, hrel⟩ := hw
    have hsx : ShX cI cB cJ cZ cT ad ai TN2 TF2 wx := hsx
    have e1 : TN = TN2 := hrel.1.symm
    have e2 : TF = TF2 := hrel.2.symm
    subst e1
    subst e2
    have hP := va_P_perm hP (pm_1 wi wm wx)
    have hD := va_D_perm hD (pm_1 wi wm wx)
    refine W.eq (g2 := F0 m 716 ls [.int r21]) rfl ?_
    refine lv_pop hx hb dL_law_716 rfl ?_
    refine lv_aload_n hx hb dL_law_717 rfl (lv_at hl 1 rfl) ?_
    refine lv_aload_n hx hb dL_law_718 rfl (lv_at hl 3 rfl) ?_
    refine lv_iload_n hx hb dL_law_719 rfl (lv_at hl 0 rfl) ?_
    refine lv_iconst (v := 1) hx hb dL_law_720 (by decide) ?_
    refine lv_iadd hx hb dL_law_721 ?_
    refine lv_topi (fun z22 ez22 => ?_)
    have iz22 : z22.toInt = i.toInt + 1 := by rw [ez22]; exact (i_add (X := i.toInt) (Y := 1) rfl (by decide) (by have h8 := i_rng (i); have h9 := i_rng (1); omega) (by have h8 := i_rng (i); have h9 := i_rng (1); omega)).trans (by omega)
    refine va_sld hx hb hX hbl hbA hS (i_in (X := i.toInt + 1) iz22 (by omega) (by omega)) dL_law_722 ?_
    refine lv_topi (fun z23 ez23 => ?_)
    refine lv_aload_n hx hb dL_law_723 rfl (lv_at hl 3 rfl) ?_
    refine lv_iload_n hx hb dL_law_724 rfl (lv_at hl 0 rfl) ?_
    refine lv_iconst (v := 2) hx hb dL_law_725 (by decide) ?_
    refine lv_iadd hx hb dL_law_726 ?_
    refine lv_topi (fun z24 ez24 => ?_)
    have iz24 : z24.toInt = i.toInt + 2 := by rw [ez24]; exact (i_add (X := i.toInt) (Y := 2) rfl (by decide) (by have h8 := i_rng (i); have h9 := i_rng (2); omega) (by have h8 := i_rng (i); have h9 := i_rng (2); omega)).trans (by omega)
    refine va_sld hx hb hX hbl hbA hS (i_in (X := i.toInt + 2) iz24 (by omega) (by omega)) dL_law_727 ?_
    refine lv_topi (fun z25 ez25 => ?_)
    refine lv_aload_n hx hb dL_law_728 rfl (lv_at hl 3 rfl) ?_
    refine lv_iload_n hx hb dL_law_729 rfl (lv_at hl 0 rfl) ?_
    refine lv_iconst (v := 3) hx hb dL_law_730 (by decide) ?_
    refine lv_iadd hx hb dL_law_731 ?_
    refine lv_topi (fun z26 ez26 => ?_)
    have iz26 : z26.toInt = i.toInt + 3 := by rw [ez26]; exact (i_add (X := i.toInt) (Y := 3) rfl (by decide) (by have h8 := i_rng (i); have h9 := i_rng (3); omega) (by have h8 := i_rng (i); have h9 := i_rng (3); omega)).trans (by omega)
    refine va_sld hx hb hX hbl hbA hS (i_in (X := i.toInt + 3) iz26 (by omega) (by omega)) dL_law_732 ?_
    refine lv_topi (fun z27 ez27 => ?_)
    refine lv_aload_n hx hb dL_law_733 rfl (lv_at hl 3 rfl) ?_
    refine lv_iload_n hx hb dL_law_734 rfl (lv_at hl 0 rfl) ?_
    refine lv_iconst (v := 4) hx hb dL_law_735 (by decide) ?_
    refine lv_iadd hx hb dL_law_736 ?_
    refine lv_topi (fun z28 ez28 => ?_)
    have iz28 : z28.toInt = i.toInt + 4 := by rw [ez28]; exact (i_add (X := i.toInt) (Y := 4) rfl (by decide) (by have h8 := i_rng (i); have h9 := i_rng (4); omega) (by have h8 := i_rng (i); have h9 := i_rng (4); omega)).trans (by omega)
    refine va_sld hx hb hX hbl hbA hS (i_in (X := i.toInt + 4) iz28 (by omega) (by omega)) dL_law_737 ?_
    refine lv_topi (fun z29 ez29 => ?_)
    have hsb30 : z29 = z8 := by rw [ez29, ez8, ez28, ez7]
    refine bi_eq (tgt := 745) (X := z29.toInt) hx hb rfl dL_law_738 (by decide) (fun h => absurd h (show ¬ z29.toInt = 0 from by rw [hsb30]; omega)) (fun _ => ?_)
    refine lv_iconst (v := 1) hx hb dL_law_741 (by decide) ?_
    refine lv_goto (tgt := 746) hx hb dL_law_742 (by decide) ?_
    obtain ⟨fs, he⟩ := ShM_he hsm (wi ++ wx)
    refine doVA (n := 4) (As := [.int z23, .int z25, .int z27, .int 1]) (rest := []) (wc := wm) (wr := wi ++ wx) hx hb hml hown hts hK hP hD hS hA he rfl hE (u_y_fair l D cI cB cJ cZ cT tz adK adV hsm z23 z25 z27 1) gL_law_X10_fair rfl rfl rfl (by decide +kernel) ⟨Nat.le_of_ble_eq_true rfl, Nat.le_of_ble_eq_true rfl⟩ hl.1 rfl rfl (Nat.le_of_ble_eq_true rfl) dL_law_746 ⟨show cells + 0 + 0 ≤ 600000 from by omega, show slots + 0 + 0 ≤ 7302250 from by omega⟩ (fun u H locs hw hP hD hS => ?_)
    obtain ⟨⟨wm, M2⟩, r31⟩ := u
    obtain ⟨hsm, hrel⟩ := hw
    have hsm : ShM cI cB cJ cZ cT bd M2 wm := hsm
    have e1 : M = M2 := hrel.symm
    subst e1
    have hP := va_P_perm hP (pm_2 wi wx wm)
    have hD := va_D_perm hD (pm_2 wi wx wm)
    refine W.eq (g2 := F0 m 749 ls [.int r31]) rfl ?_
    refine lv_pop hx hb dL_law_749 rfl ?_
    refine lv_goto (tgt := 1241) hx hb dL_law_750 (by decide) ?_
    refine W.widen (k := cells + 24) (n := slots + 957) (by omega) (by omega) ?_
    exact kk TN TF M wx wi wm _ _ _ hsx hsi hsm hTL hP hD hS (lv_sub hl [0, 1, 2, 3] rfl)
set_option maxHeartbeats 4000000 in
set_option maxRecDepth 100000 in
theorem law_13 {p : Program} {e : Env} {s : State} {m : MethodId} {below : List Frame} {meth : Method} {c : Code} (l : Launch) {b L : Nat} {xs : Nat → Int32} (hL : L ≤ 3072) (C0 : lw_At p s m meth c b L xs) {D : va_G} {cI cB cJ cZ cT : ClassId} (hK : KK D (tyL cI cB cJ cZ cT) s) {tz adK adV : Nat → Nat} (hE : EE tz adK adV (fun q : Nat => s.heap.size ≤ q) s s.heap) {ad ai bd : Nat} {TN : Nat → Int32} {TF M : Nat → Nat → Int32} {wx wi wm : va_W} (hsx : ShX cI cB cJ cZ cT ad ai TN TF wx) (hsi : ShI cI cB cJ cZ cT ai M wi) (hsm : ShM cI cB cJ cZ cT bd M wm) (hTL : TLg 0 TN TF M) {H : Heap} {locs : List Loc} (hP : va_P D vwCl (wx ++ (wi ++ wm)) H) (hD : va_D (fun q : Nat => s.heap.size ≤ q) (wx ++ (wi ++ wm))) (hS : va_S (fun q : Nat => s.heap.size ≤ q) s.heap H locs) {ls : Array Slot} {i : Int32} (hi : 0 ≤ i.toInt ∧ i.toInt + 6 ≤ L) (hl : lv_has ls 4 [(3, .int i), (2, .ref bd), (1, .ref ad), (0, .ref b)]) {cells slots : Nat} (hc : cells + 24 ≤ 600000) (hss : slots + 957 ≤ 7302250) (kk : ∀ (TN : Nat → Int32) (TF M : Nat → Nat → Int32) (wx wi wm : va_W) (H : Heap) (locs : List Loc) (ls : Array Slot), ShX cI cB cJ cZ cT ad ai TN TF wx → ShI cI cB cJ cZ cT ai M wi → ShM cI cB cJ cZ cT bd M wm → TLg 0 TN TF M → va_P D vwCl (wx ++ (wi ++ wm)) H → va_D (fun q : Nat => s.heap.size ≤ q) (wx ++ (wi ++ wm)) → va_S (fun q : Nat => s.heap.size ≤ q) s.heap H locs → lv_has ls 4 [(3, .int i), (2, .ref bd), (1, .ref ad), (0, .ref b)] → W p l e room_1 s m #[Value.ref b] below meth c H locs (cells + 24) (slots + 957) (lw_Z below #[Value.ref b] s) (F0 m 1241 ls [])) : W p l e room_1 s m #[Value.ref b] below meth c H locs (cells) (slots) (lw_Z below #[Value.ref b] s) (F0 m 753 ls []) := by
  obtain ⟨hx, hb, hr, hml, hown, hts0, hX, hbl, hlocks, hgv⟩ := id C0
  have hown : s.vm.findClass RL = some m.cls := hown
  have hts : ∀ w ∈ lw_tbl, w.before #[Value.ref b] s = true := hts0
  have hA : ∀ q : Nat, s.heap.size ≤ q → (fun q : Nat => s.heap.size ≤ q) q := fun _ h => h
  have hbA : ¬ (fun q : Nat => s.heap.size ≤ q) b := Nat.not_le.mpr hbl
  refine lv_aload_n hx hb dL_law_753 rfl (lv_at hl 2 rfl) ?_
  refine lv_aload_n hx hb dL_law_754 rfl (lv_at hl 3 rfl) ?_
  refine lv_iload_n hx hb dL_law_755 rfl (lv_at hl 0 rfl) ?_
  refine lv_iconst (v := 1) hx hb dL_law_756 (by decide) ?_
  refine lv_iadd hx hb dL_law_757 ?_
  refine lv_topi (fun z1 ez1 => ?_)
  have iz1 : z1.toInt = i.toInt + 1 := by rw [ez1]; exact (i_add (X := i.toInt) (Y := 1) rfl (by decide) (by have h8 := i_rng (i); have h9 := i_rng (1); omega) (by have h8 := i_rng (i); have h9 := i_rng (1); omega)).trans (by omega)
  refine va_sld hx hb hX hbl hbA hS (i_in (X := i.toInt + 1) iz1 (by omega) (by omega)) dL_law_758 ?_
  refine lv_topi (fun z2 ez2 => ?_)
  refine lv_aload_n hx hb dL_law_759 rfl (lv_at hl 3 rfl) ?_
  refine lv_iload_n hx hb dL_law_760 rfl (lv_at hl 0 rfl) ?_
  refine lv_iconst (v := 2) hx hb dL_law_761 (by decide) ?_
  refine lv_iadd hx hb dL_law_762 ?_
  refine lv_topi (fun z3 ez3 => ?_)
  have iz3 : z3.toInt = i.toInt + 2 := by rw [ez3]; exact (i_add (X := i.toInt) (Y := 2) rfl (by decide) (by have h8 := i_rng (i); have h9 := i_rng (2); omega) (by have h8 := i_rng (i); have h9 := i_rng (2); omega)).trans (by omega)
  refine va_sld hx hb hX hbl hbA hS (i_in (X := i.toInt + 2) iz3 (by omega) (by omega)) dL_law_763 ?_
  refine lv_topi (fun z4 ez4 => ?_)
  refine lv_aload_n hx hb dL_law_764 rfl (lv_at hl 3 rfl) ?_
  refine lv_iload_n hx hb dL_law_765 rfl (lv_at hl 0 rfl) ?_
  refine lv_iconst (v := 3) hx hb dL_law_766 (by decide) ?_
  refine lv_iadd hx hb dL_law_767 ?_
  refine lv_topi (fun z5 ez5 => ?_)
  have iz5 : z5.toInt = i.toInt + 3 := by rw [ez5]; exact (i_add (X := i.toInt) (Y := 3) rfl (by decide) (by have h8 := i_rng (i); have h9 := i_rng (3); omega) (by have h8 := i_rng (i); have h9 := i_rng (3); omega)).trans (by omega)
  refine va_sld hx hb hX hbl hbA hS (i_in (X := i.toInt + 3) iz5 (by omega) (by omega)) dL_law_768 ?_
  refine lv_topi (fun z6 ez6 => ?_)
  obtain ⟨fs, he⟩ := ShX_he hsx (wi ++ wm)
  refine doVA (n := 3) (As := [.int z2, .int z4, .int z6]) (rest := []) (wc := wx) (wr := wi ++ wm) hx hb hml hown hts hK hP hD hS hA he rfl hE (u_x_ask l D cI cB cJ cZ cT tz adK adV hsx z2 z4 z6) gL_law_X9_ask rfl rfl rfl (by decide +kernel) ⟨Nat.le_of_ble_eq_true rfl, Nat.le_of_ble_eq_true rfl⟩ hl.1 rfl rfl (Nat.le_of_ble_eq_true rfl) dL_law_769 ⟨show cells + 0 ≤ 600000 from by omega, show slots + 0 ≤ 7302250 from by omega⟩ (fun u H locs hw hP hD hS => ?_)
  have hrx := ShX_r hsx
  have hrm := ShM_r hsm
  obtain ⟨⟨wx, ⟨TN2, TF2⟩⟩, r7⟩ := u
  obtain ⟨hsx, hrel⟩ := hw
  have hsx : ShX cI cB cJ cZ cT ad ai TN2 TF2 wx := hsx
  have e1 : TN = TN2 := hrel.1.symm
  have e2 : TF = TF2 := hrel.2.symm
  subst e1
  subst e2
  have hP := va_P_perm hP (pm_1 wi wm wx)
  have hD := va_D_perm hD (pm_1 wi wm wx)
  refine W.eq (g2 := F0 m 772 ls [.int r7]) rfl ?_
  refine lv_pop hx hb dL_law_772 rfl ?_
  refine lv_aload_n hx hb dL_law_773 rfl (lv_at hl 1 rfl) ?_
  refine lv_aload_n hx hb dL_law_774 rfl (lv_at hl 3 rfl) ?_
  refine lv_iload_n hx hb dL_law_775 rfl (lv_at hl 0 rfl) ?_
  refine lv_iconst (v := 1) hx hb dL_law_776 (by decide) ?_
  refine lv_iadd hx hb dL_law_777 ?_
  refine lv_topi (fun z8 ez8 => ?_)
  have iz8 : z8.toInt = i.toInt + 1 := by rw [ez8]; exact (i_add (X := i.toInt) (Y := 1) rfl (by decide) (by have h8 := i_rng (i); have h9 := i_rng (1); omega) (by have h8 := i_rng (i); have h9 := i_rng (1); omega)).trans (by omega)
  refine va_sld hx hb hX hbl hbA hS (i_in (X := i.toInt + 1) iz8 (by omega) (by omega)) dL_law_778 ?_
  refine lv_topi (fun z9 ez9 => ?_)
  refine lv_aload_n hx hb dL_law_779 rfl (lv_at hl 3 rfl) ?_
  refine lv_iload_n hx hb dL_law_780 rfl (lv_at hl 0 rfl) ?_
  refine lv_iconst (v := 2) hx hb dL_law_781 (by decide) ?_
  refine lv_iadd hx hb dL_law_782 ?_
  refine lv_topi (fun z10 ez10 => ?_)
  have iz10 : z10.toInt = i.toInt + 2 := by rw [ez10]; exact (i_add (X := i.toInt) (Y := 2) rfl (by decide) (by have h8 := i_rng (i); have h9 := i_rng (2); omega) (by have h8 := i_rng (i); have h9 := i_rng (2); omega)).trans (by omega)
  refine va_sld hx hb hX hbl hbA hS (i_in (X := i.toInt + 2) iz10 (by omega) (by omega)) dL_law_783 ?_
  refine lv_topi (fun z11 ez11 => ?_)
  refine lv_aload_n hx hb dL_law_784 rfl (lv_at hl 3 rfl) ?_
  refine lv_iload_n hx hb dL_law_785 rfl (lv_at hl 0 rfl) ?_
  refine lv_iconst (v := 3) hx hb dL_law_786 (by decide) ?_
  refine lv_iadd hx hb dL_law_787 ?_
  refine lv_topi (fun z12 ez12 => ?_)
  have iz12 : z12.toInt = i.toInt + 3 := by rw [ez12]; exact (i_add (X := i.toInt) (Y := 3) rfl (by decide) (by have h8 := i_rng (i); have h9 := i_rng (3); omega) (by have h8 := i_rng (i); have h9 := i_rng (3); omega)).trans (by omega)
  refine va_sld hx hb hX hbl hbA hS (i_in (X := i.toInt + 3) iz12 (by omega) (by omega)) dL_law_788 ?_
  refine lv_topi (fun z13 ez13 => ?_)
  obtain ⟨fs, he⟩ := ShM_he hsm (wi ++ wx)
  refine doVA (n := 3) (As := [.int z9, .int z11, .int z13]) (rest := []) (wc := wm) (wr := wi ++ wx) hx hb hml hown hts hK hP hD hS hA he rfl hE (u_y_ask l D cI cB cJ cZ cT tz adK adV hsm z9 z11 z13) gL_law_X10_ask rfl rfl rfl (by decide +kernel) ⟨Nat.le_of_ble_eq_true rfl, Nat.le_of_ble_eq_true rfl⟩ hl.1 rfl rfl (Nat.le_of_ble_eq_true rfl) dL_law_789 ⟨show cells + 0 + 0 ≤ 600000 from by omega, show slots + 0 + 0 ≤ 7302250 from by omega⟩ (fun u H locs hw hP hD hS => ?_)
  obtain ⟨⟨wm, M2⟩, r14⟩ := u
  obtain ⟨hsm, hrel⟩ := hw
  have hsm : ShM cI cB cJ cZ cT bd M2 wm := hsm
  have e1 : M = M2 := hrel.symm
  subst e1
  have hP := va_P_perm hP (pm_2 wi wx wm)
  have hD := va_D_perm hD (pm_2 wi wx wm)
  refine W.eq (g2 := F0 m 792 ls [.int r14]) rfl ?_
  refine lv_pop hx hb dL_law_792 rfl ?_
  refine lv_goto (tgt := 1241) hx hb dL_law_793 (by decide) ?_
  refine W.widen (k := cells + 24) (n := slots + 957) (by omega) (by omega) ?_
  exact kk TN TF M wx wi wm _ _ _ hsx hsi hsm hTL hP hD hS (lv_sub hl [0, 1, 2, 3] rfl)
set_option maxHeartbeats 4000000 in
set_option maxRecDepth 100000 in
theorem law_14 {p : Program} {e : Env} {s : State} {m : MethodId} {below : List Frame} {meth : Method} {c : Code} (l : Launch) {b L : Nat} {xs : Nat → Int32} (hL : L ≤ 3072) (C0 : lw_At p s m meth c b L xs) {D : va_G} {cI cB cJ cZ cT : ClassId} (hK : KK D (tyL cI cB cJ cZ cT) s) {tz adK adV : Nat → Nat} (hE : EE tz adK adV (fun q : Nat => s.heap.size ≤ q) s s.heap) {ad ai bd : Nat} {TN : Nat → Int32} {TF M : Nat → Nat → Int32} {wx wi wm : va_W} (hsx : ShX cI cB cJ cZ cT ad ai TN TF wx) (hsi : ShI cI cB cJ cZ cT ai M wi) (hsm : ShM cI cB cJ cZ cT bd M wm) (hTL : TLg 0 TN TF M) {H : Heap} {locs : List Loc} (hP : va_P D vwCl (wx ++ (wi ++ wm)) H) (hD : va_D (fun q : Nat => s.heap.size ≤ q) (wx ++ (wi ++ wm))) (hS : va_S (fun q : Nat => s.heap.size ≤ q) s.heap H locs) {ls : Array Slot} {i : Int32} (hi : 0 ≤ i.toInt ∧ i.toInt + 6 ≤ L) (hl : lv_has ls 4 [(3, .int i), (2, .ref bd), (1, .ref ad), (0, .ref b)]) {cells slots : Nat} (hc : cells + 24 ≤ 600000) (hss : slots + 957 ≤ 7302250) (kk : ∀ (TN : Nat → Int32) (TF M : Nat → Nat → Int32) (wx wi wm : va_W) (H : Heap) (locs : List Loc) (ls : Array Slot), ShX cI cB cJ cZ cT ad ai TN TF wx → ShI cI cB cJ cZ cT ai M wi → ShM cI cB cJ cZ cT bd M wm → TLg 0 TN TF M → va_P D vwCl (wx ++ (wi ++ wm)) H → va_D (fun q : Nat => s.heap.size ≤ q) (wx ++ (wi ++ wm)) → va_S (fun q : Nat => s.heap.size ≤ q) s.heap H locs → lv_has ls 4 [(3, .int i), (2, .ref bd), (1, .ref ad), (0, .ref b)] → W p l e room_1 s m #[Value.ref b] below meth c H locs (cells + 24) (slots + 957) (lw_Z below #[Value.ref b] s) (F0 m 1241 ls [])) : W p l e room_1 s m #[Value.ref b] below meth c H locs (cells) (slots) (lw_Z below #[Value.ref b] s) (F0 m 796 ls []) := by
  obtain ⟨hx, hb, hr, hml, hown, hts0, hX, hbl, hlocks, hgv⟩ := id C0
  have hown : s.vm.findClass RL = some m.cls := hown
  have hts : ∀ w ∈ lw_tbl, w.before #[Value.ref b] s = true := hts0
  have hA : ∀ q : Nat, s.heap.size ≤ q → (fun q : Nat => s.heap.size ≤ q) q := fun _ h => h
  have hbA : ¬ (fun q : Nat => s.heap.size ≤ q) b := Nat.not_le.mpr hbl
  refine lv_aload_n hx hb dL_law_796 rfl (lv_at hl 2 rfl) ?_
  refine lv_aload_n hx hb dL_law_797 rfl (lv_at hl 3 rfl) ?_
  refine lv_iload_n hx hb dL_law_798 rfl (lv_at hl 0 rfl) ?_
  refine lv_iconst (v := 1) hx hb dL_law_799 (by decide) ?_
  refine lv_iadd hx hb dL_law_800 ?_
  refine lv_topi (fun z1 ez1 => ?_)
  have iz1 : z1.toInt = i.toInt + 1 := by rw [ez1]; exact (i_add (X := i.toInt) (Y := 1) rfl (by decide) (by have h8 := i_rng (i); have h9 := i_rng (1); omega) (by have h8 := i_rng (i); have h9 := i_rng (1); omega)).trans (by omega)
  refine va_sld hx hb hX hbl hbA hS (i_in (X := i.toInt + 1) iz1 (by omega) (by omega)) dL_law_801 ?_
  refine lv_topi (fun z2 ez2 => ?_)
  refine lv_aload_n hx hb dL_law_802 rfl (lv_at hl 3 rfl) ?_
  refine lv_iload_n hx hb dL_law_803 rfl (lv_at hl 0 rfl) ?_
  refine lv_iconst (v := 2) hx hb dL_law_804 (by decide) ?_
  refine lv_iadd hx hb dL_law_805 ?_
  refine lv_topi (fun z3 ez3 => ?_)
  have iz3 : z3.toInt = i.toInt + 2 := by rw [ez3]; exact (i_add (X := i.toInt) (Y := 2) rfl (by decide) (by have h8 := i_rng (i); have h9 := i_rng (2); omega) (by have h8 := i_rng (i); have h9 := i_rng (2); omega)).trans (by omega)
  refine va_sld hx hb hX hbl hbA hS (i_in (X := i.toInt + 2) iz3 (by omega) (by omega)) dL_law_806 ?_
  refine lv_topi (fun z4 ez4 => ?_)
  refine lv_aload_n hx hb dL_law_807 rfl (lv_at hl 3 rfl) ?_
  refine lv_iload_n hx hb dL_law_808 rfl (lv_at hl 0 rfl) ?_
  refine lv_iconst (v := 3) hx hb dL_law_809 (by decide) ?_
  refine lv_iadd hx hb dL_law_810 ?_
  refine lv_topi (fun z5 ez5 => ?_)
  have iz5 : z5.toInt = i.toInt + 3 := by rw [ez5]; exact (i_add (X := i.toInt) (Y := 3) rfl (by decide) (by have h8 := i_rng (i); have h9 := i_rng (3); omega) (by have h8 := i_rng (i); have h9 := i_rng (3); omega)).trans (by omega)
  refine va_sld hx hb hX hbl hbA hS (i_in (X := i.toInt + 3) iz5 (by omega) (by omega)) dL_law_811 ?_
  refine lv_topi (fun z6 ez6 => ?_)
  obtain ⟨fs, he⟩ := ShX_he hsx (wi ++ wm)
  refine doVA (n := 3) (As := [.int z2, .int z4, .int z6]) (rest := []) (wc := wx) (wr := wi ++ wm) hx hb hml hown hts hK hP hD hS hA he rfl hE (u_x_taken l D cI cB cJ cZ cT tz adK adV hsx z2 z4 z6) gL_law_X9_taken rfl rfl rfl (by decide +kernel) ⟨Nat.le_of_ble_eq_true rfl, Nat.le_of_ble_eq_true rfl⟩ hl.1 rfl rfl (Nat.le_of_ble_eq_true rfl) dL_law_812 ⟨show cells + 0 ≤ 600000 from by omega, show slots + 0 ≤ 7302250 from by omega⟩ (fun u H locs hw hP hD hS => ?_)
  have hrx := ShX_r hsx
  have hrm := ShM_r hsm
  obtain ⟨⟨wx, ⟨TN2, TF2⟩⟩, r7⟩ := u
  obtain ⟨hsx, hrel⟩ := hw
  have hsx : ShX cI cB cJ cZ cT ad ai TN2 TF2 wx := hsx
  have e1 : TN = TN2 := hrel.1.symm
  have e2 : TF = TF2 := hrel.2.symm
  subst e1
  subst e2
  have hP := va_P_perm hP (pm_1 wi wm wx)
  have hD := va_D_perm hD (pm_1 wi wm wx)
  refine W.eq (g2 := F0 m 815 ls [.int r7]) rfl ?_
  refine lv_pop hx hb dL_law_815 rfl ?_
  refine lv_aload_n hx hb dL_law_816 rfl (lv_at hl 1 rfl) ?_
  refine lv_aload_n hx hb dL_law_817 rfl (lv_at hl 3 rfl) ?_
  refine lv_iload_n hx hb dL_law_818 rfl (lv_at hl 0 rfl) ?_
  refine lv_iconst (v := 1) hx hb dL_law_819 (by decide) ?_
  refine lv_iadd hx hb dL_law_820 ?_
  refine lv_topi (fun z8 ez8 => ?_)
  have iz8 : z8.toInt = i.toInt + 1 := by rw [ez8]; exact (i_add (X := i.toInt) (Y := 1) rfl (by decide) (by have h8 := i_rng (i); have h9 := i_rng (1); omega) (by have h8 := i_rng (i); have h9 := i_rng (1); omega)).trans (by omega)
  refine va_sld hx hb hX hbl hbA hS (i_in (X := i.toInt + 1) iz8 (by omega) (by omega)) dL_law_821 ?_
  refine lv_topi (fun z9 ez9 => ?_)
  refine lv_aload_n hx hb dL_law_822 rfl (lv_at hl 3 rfl) ?_
  refine lv_iload_n hx hb dL_law_823 rfl (lv_at hl 0 rfl) ?_
  refine lv_iconst (v := 2) hx hb dL_law_824 (by decide) ?_
  refine lv_iadd hx hb dL_law_825 ?_
  refine lv_topi (fun z10 ez10 => ?_)
  have iz10 : z10.toInt = i.toInt + 2 := by rw [ez10]; exact (i_add (X := i.toInt) (Y := 2) rfl (by decide) (by have h8 := i_rng (i); have h9 := i_rng (2); omega) (by have h8 := i_rng (i); have h9 := i_rng (2); omega)).trans (by omega)
  refine va_sld hx hb hX hbl hbA hS (i_in (X := i.toInt + 2) iz10 (by omega) (by omega)) dL_law_826 ?_
  refine lv_topi (fun z11 ez11 => ?_)
  refine lv_aload_n hx hb dL_law_827 rfl (lv_at hl 3 rfl) ?_
  refine lv_iload_n hx hb dL_law_828 rfl (lv_at hl 0 rfl) ?_
  refine lv_iconst (v := 3) hx hb dL_law_829 (by decide) ?_
  refine lv_iadd hx hb dL_law_830 ?_
  refine lv_topi (fun z12 ez12 => ?_)
  have iz12 : z12.toInt = i.toInt + 3 := by rw [ez12]; exact (i_add (X := i.toInt) (Y := 3) rfl (by decide) (by have h8 := i_rng (i); have h9 := i_rng (3); omega) (by have h8 := i_rng (i); have h9 := i_rng (3); omega)).trans (by omega)
  refine va_sld hx hb hX hbl hbA hS (i_in (X := i.toInt + 3) iz12 (by omega) (by omega)) dL_law_831 ?_
  refine lv_topi (fun z13 ez13 => ?_)
  obtain ⟨fs, he⟩ := ShM_he hsm (wi ++ wx)
  refine doVA (n := 3) (As := [.int z9, .int z11, .int z13]) (rest := []) (wc := wm) (wr := wi ++ wx) hx hb hml hown hts hK hP hD hS hA he rfl hE (u_y_taken l D cI cB cJ cZ cT tz adK adV hsm z9 z11 z13) gL_law_X10_taken rfl rfl rfl (by decide +kernel) ⟨Nat.le_of_ble_eq_true rfl, Nat.le_of_ble_eq_true rfl⟩ hl.1 rfl rfl (Nat.le_of_ble_eq_true rfl) dL_law_832 ⟨show cells + 0 + 0 ≤ 600000 from by omega, show slots + 0 + 0 ≤ 7302250 from by omega⟩ (fun u H locs hw hP hD hS => ?_)
  obtain ⟨⟨wm, M2⟩, r14⟩ := u
  obtain ⟨hsm, hrel⟩ := hw
  have hsm : ShM cI cB cJ cZ cT bd M2 wm := hsm
  have e1 : M = M2 := hrel.symm
  subst e1
  have hP := va_P_perm hP (pm_2 wi wx wm)
  have hD := va_D_perm hD (pm_2 wi wx wm)
  refine W.eq (g2 := F0 m 835 ls [.int r14]) rfl ?_
  refine lv_pop hx hb dL_law_835 rfl ?_
  refine lv_goto (tgt := 1241) hx hb dL_law_836 (by decide) ?_
  refine W.widen (k := cells + 24) (n := slots + 957) (by omega) (by omega) ?_
  exact kk TN TF M wx wi wm _ _ _ hsx hsi hsm hTL hP hD hS (lv_sub hl [0, 1, 2, 3] rfl)
set_option maxHeartbeats 4000000 in
set_option maxRecDepth 100000 in
theorem law_15 {p : Program} {e : Env} {s : State} {m : MethodId} {below : List Frame} {meth : Method} {c : Code} (l : Launch) {b L : Nat} {xs : Nat → Int32} (hL : L ≤ 3072) (C0 : lw_At p s m meth c b L xs) {D : va_G} {cI cB cJ cZ cT : ClassId} (hK : KK D (tyL cI cB cJ cZ cT) s) {tz adK adV : Nat → Nat} (hE : EE tz adK adV (fun q : Nat => s.heap.size ≤ q) s s.heap) {ad ai bd : Nat} {TN : Nat → Int32} {TF M : Nat → Nat → Int32} {wx wi wm : va_W} (hsx : ShX cI cB cJ cZ cT ad ai TN TF wx) (hsi : ShI cI cB cJ cZ cT ai M wi) (hsm : ShM cI cB cJ cZ cT bd M wm) (hTL : TLg 0 TN TF M) {H : Heap} {locs : List Loc} (hP : va_P D vwCl (wx ++ (wi ++ wm)) H) (hD : va_D (fun q : Nat => s.heap.size ≤ q) (wx ++ (wi ++ wm))) (hS : va_S (fun q : Nat => s.heap.size ≤ q) s.heap H locs) {ls : Array Slot} {i : Int32} (hi : 0 ≤ i.toInt ∧ i.toInt + 6 ≤ L) (hl : lv_has ls 4 [(3, .int i), (2, .ref bd), (1, .ref ad), (0, .ref b)]) {cells slots : Nat} (hc : cells + 24 ≤ 600000) (hss : slots + 957 ≤ 7302250) (kk : ∀ (TN : Nat → Int32) (TF M : Nat → Nat → Int32) (wx wi wm : va_W) (H : Heap) (locs : List Loc) (ls : Array Slot), ShX cI cB cJ cZ cT ad ai TN TF wx → ShI cI cB cJ cZ cT ai M wi → ShM cI cB cJ cZ cT bd M wm → TLg 0 TN TF M → va_P D vwCl (wx ++ (wi ++ wm)) H → va_D (fun q : Nat => s.heap.size ≤ q) (wx ++ (wi ++ wm)) → va_S (fun q : Nat => s.heap.size ≤ q) s.heap H locs → lv_has ls 4 [(3, .int i), (2, .ref bd), (1, .ref ad), (0, .ref b)] → W p l e room_1 s m #[Value.ref b] below meth c H locs (cells + 24) (slots + 957) (lw_Z below #[Value.ref b] s) (F0 m 1241 ls [])) : W p l e room_1 s m #[Value.ref b] below meth c H locs (cells) (slots) (lw_Z below #[Value.ref b] s) (F0 m 839 ls []) := by
  obtain ⟨hx, hb, hr, hml, hown, hts0, hX, hbl, hlocks, hgv⟩ := id C0
  have hown : s.vm.findClass RL = some m.cls := hown
  have hts : ∀ w ∈ lw_tbl, w.before #[Value.ref b] s = true := hts0
  have hA : ∀ q : Nat, s.heap.size ≤ q → (fun q : Nat => s.heap.size ≤ q) q := fun _ h => h
  have hbA : ¬ (fun q : Nat => s.heap.size ≤ q) b := Nat.not_le.mpr hbl
  refine lv_aload_n hx hb dL_law_839 rfl (lv_at hl 2 rfl) ?_
  refine lv_aload_n hx hb dL_law_840 rfl (lv_at hl 3 rfl) ?_
  refine lv_iload_n hx hb dL_law_841 rfl (lv_at hl 0 rfl) ?_
  refine lv_iconst (v := 1) hx hb dL_law_842 (by decide) ?_
  refine lv_iadd hx hb dL_law_843 ?_
  refine lv_topi (fun z1 ez1 => ?_)
  have iz1 : z1.toInt = i.toInt + 1 := by rw [ez1]; exact (i_add (X := i.toInt) (Y := 1) rfl (by decide) (by have h8 := i_rng (i); have h9 := i_rng (1); omega) (by have h8 := i_rng (i); have h9 := i_rng (1); omega)).trans (by omega)
  refine va_sld hx hb hX hbl hbA hS (i_in (X := i.toInt + 1) iz1 (by omega) (by omega)) dL_law_844 ?_
  refine lv_topi (fun z2 ez2 => ?_)
  refine lv_aload_n hx hb dL_law_845 rfl (lv_at hl 3 rfl) ?_
  refine lv_iload_n hx hb dL_law_846 rfl (lv_at hl 0 rfl) ?_
  refine lv_iconst (v := 2) hx hb dL_law_847 (by decide) ?_
  refine lv_iadd hx hb dL_law_848 ?_
  refine lv_topi (fun z3 ez3 => ?_)
  have iz3 : z3.toInt = i.toInt + 2 := by rw [ez3]; exact (i_add (X := i.toInt) (Y := 2) rfl (by decide) (by have h8 := i_rng (i); have h9 := i_rng (2); omega) (by have h8 := i_rng (i); have h9 := i_rng (2); omega)).trans (by omega)
  refine va_sld hx hb hX hbl hbA hS (i_in (X := i.toInt + 2) iz3 (by omega) (by omega)) dL_law_849 ?_
  refine lv_topi (fun z4 ez4 => ?_)
  obtain ⟨fs, he⟩ := ShX_he hsx (wi ++ wm)
  refine doVA (n := 2) (As := [.int z2, .int z4]) (rest := []) (wc := wx) (wr := wi ++ wm) hx hb hml hown hts hK hP hD hS hA he rfl hE (u_x_stands l D cI cB cJ cZ cT tz adK adV hsx z2 z4) gL_law_X9_stands rfl rfl rfl (by decide +kernel) ⟨Nat.le_of_ble_eq_true rfl, Nat.le_of_ble_eq_true rfl⟩ hl.1 rfl rfl (Nat.le_of_ble_eq_true rfl) dL_law_850 ⟨show cells + 0 ≤ 600000 from by omega, show slots + 0 ≤ 7302250 from by omega⟩ (fun u H locs hw hP hD hS => ?_)
  have hrx := ShX_r hsx
  have hrm := ShM_r hsm
  obtain ⟨⟨wx, ⟨TN2, TF2⟩⟩, r5⟩ := u
  obtain ⟨hsx, hrel⟩ := hw
  have hsx : ShX cI cB cJ cZ cT ad ai TN2 TF2 wx := hsx
  have e1 : TN = TN2 := hrel.1.symm
  have e2 : TF = TF2 := hrel.2.symm
  subst e1
  subst e2
  have hP := va_P_perm hP (pm_1 wi wm wx)
  have hD := va_D_perm hD (pm_1 wi wm wx)
  refine W.eq (g2 := F0 m 853 ls [.int r5]) rfl ?_
  refine lv_pop hx hb dL_law_853 rfl ?_
  refine lv_aload_n hx hb dL_law_854 rfl (lv_at hl 1 rfl) ?_
  refine lv_aload_n hx hb dL_law_855 rfl (lv_at hl 3 rfl) ?_
  refine lv_iload_n hx hb dL_law_856 rfl (lv_at hl 0 rfl) ?_
  refine lv_iconst (v := 1) hx hb dL_law_857 (by decide) ?_
  refine lv_iadd hx hb dL_law_858 ?_
  refine lv_topi (fun z6 ez6 => ?_)
  have iz6 : z6.toInt = i.toInt + 1 := by rw [ez6]; exact (i_add (X := i.toInt) (Y := 1) rfl (by decide) (by have h8 := i_rng (i); have h9 := i_rng (1); omega) (by have h8 := i_rng (i); have h9 := i_rng (1); omega)).trans (by omega)
  refine va_sld hx hb hX hbl hbA hS (i_in (X := i.toInt + 1) iz6 (by omega) (by omega)) dL_law_859 ?_
  refine lv_topi (fun z7 ez7 => ?_)
  refine lv_aload_n hx hb dL_law_860 rfl (lv_at hl 3 rfl) ?_
  refine lv_iload_n hx hb dL_law_861 rfl (lv_at hl 0 rfl) ?_
  refine lv_iconst (v := 2) hx hb dL_law_862 (by decide) ?_
  refine lv_iadd hx hb dL_law_863 ?_
  refine lv_topi (fun z8 ez8 => ?_)
  have iz8 : z8.toInt = i.toInt + 2 := by rw [ez8]; exact (i_add (X := i.toInt) (Y := 2) rfl (by decide) (by have h8 := i_rng (i); have h9 := i_rng (2); omega) (by have h8 := i_rng (i); have h9 := i_rng (2); omega)).trans (by omega)
  refine va_sld hx hb hX hbl hbA hS (i_in (X := i.toInt + 2) iz8 (by omega) (by omega)) dL_law_864 ?_
  refine lv_topi (fun z9 ez9 => ?_)
  obtain ⟨fs, he⟩ := ShM_he hsm (wi ++ wx)
  refine doVA (n := 2) (As := [.int z7, .int z9]) (rest := []) (wc := wm) (wr := wi ++ wx) hx hb hml hown hts hK hP hD hS hA he rfl hE (u_y_stands l D cI cB cJ cZ cT tz adK adV hsm z7 z9) gL_law_X10_stands rfl rfl rfl (by decide +kernel) ⟨Nat.le_of_ble_eq_true rfl, Nat.le_of_ble_eq_true rfl⟩ hl.1 rfl rfl (Nat.le_of_ble_eq_true rfl) dL_law_865 ⟨show cells + 0 + 0 ≤ 600000 from by omega, show slots + 0 + 0 ≤ 7302250 from by omega⟩ (fun u H locs hw hP hD hS => ?_)
  obtain ⟨⟨wm, M2⟩, r10⟩ := u
  obtain ⟨hsm, hrel⟩ := hw
  have hsm : ShM cI cB cJ cZ cT bd M2 wm := hsm
  have e1 : M = M2 := hrel.symm
  subst e1
  have hP := va_P_perm hP (pm_2 wi wx wm)
  have hD := va_D_perm hD (pm_2 wi wx wm)
  refine W.eq (g2 := F0 m 868 ls [.int r10]) rfl ?_
  refine lv_pop hx hb dL_law_868 rfl ?_
  refine lv_goto (tgt := 1241) hx hb dL_law_869 (by decide) ?_
  refine W.widen (k := cells + 24) (n := slots + 957) (by omega) (by omega) ?_
  exact kk TN TF M wx wi wm _ _ _ hsx hsi hsm hTL hP hD hS (lv_sub hl [0, 1, 2, 3] rfl)
set_option maxHeartbeats 4000000 in
set_option maxRecDepth 100000 in
theorem law_16 {p : Program} {e : Env} {s : State} {m : MethodId} {below : List Frame} {meth : Method} {c : Code} (l : Launch) {b L : Nat} {xs : Nat → Int32} (hL : L ≤ 3072) (C0 : lw_At p s m meth c b L xs) {D : va_G} {cI cB cJ cZ cT : ClassId} (hK : KK D (tyL cI cB cJ cZ cT) s) {tz adK adV : Nat → Nat} (hE : EE tz adK adV (fun q : Nat => s.heap.size ≤ q) s s.heap) {ad ai bd : Nat} {TN : Nat → Int32} {TF M : Nat → Nat → Int32} {wx wi wm : va_W} (hsx : ShX cI cB cJ cZ cT ad ai TN TF wx) (hsi : ShI cI cB cJ cZ cT ai M wi) (hsm : ShM cI cB cJ cZ cT bd M wm) (hTL : TLg 0 TN TF M) {H : Heap} {locs : List Loc} (hP : va_P D vwCl (wx ++ (wi ++ wm)) H) (hD : va_D (fun q : Nat => s.heap.size ≤ q) (wx ++ (wi ++ wm))) (hS : va_S (fun q : Nat => s.heap.size ≤ q) s.heap H locs) {ls : Array Slot} {i : Int32} (hi : 0 ≤ i.toInt ∧ i.toInt + 6 ≤ L) (hl : lv_has ls 4 [(3, .int i), (2, .ref bd), (1, .ref ad), (0, .ref b)]) {cells slots : Nat} (hc : cells + 24 ≤ 600000) (hss : slots + 957 ≤ 7302250) (kk : ∀ (TN : Nat → Int32) (TF M : Nat → Nat → Int32) (wx wi wm : va_W) (H : Heap) (locs : List Loc) (ls : Array Slot), ShX cI cB cJ cZ cT ad ai TN TF wx → ShI cI cB cJ cZ cT ai M wi → ShM cI cB cJ cZ cT bd M wm → TLg 0 TN TF M → va_P D vwCl (wx ++ (wi ++ wm)) H → va_D (fun q : Nat => s.heap.size ≤ q) (wx ++ (wi ++ wm)) → va_S (fun q : Nat => s.heap.size ≤ q) s.heap H locs → lv_has ls 4 [(3, .int i), (2, .ref bd), (1, .ref ad), (0, .ref b)] → W p l e room_1 s m #[Value.ref b] below meth c H locs (cells + 24) (slots + 957) (lw_Z below #[Value.ref b] s) (F0 m 1241 ls [])) : W p l e room_1 s m #[Value.ref b] below meth c H locs (cells) (slots) (lw_Z below #[Value.ref b] s) (F0 m 872 ls []) := by
  obtain ⟨hx, hb, hr, hml, hown, hts0, hX, hbl, hlocks, hgv⟩ := id C0
  have hown : s.vm.findClass RL = some m.cls := hown
  have hts : ∀ w ∈ lw_tbl, w.before #[Value.ref b] s = true := hts0
  have hA : ∀ q : Nat, s.heap.size ≤ q → (fun q : Nat => s.heap.size ≤ q) q := fun _ h => h
  have hbA : ¬ (fun q : Nat => s.heap.size ≤ q) b := Nat.not_le.mpr hbl
  refine lv_aload_n hx hb dL_law_872 rfl (lv_at hl 2 rfl) ?_
  refine lv_aload_n hx hb dL_law_873 rfl (lv_at hl 3 rfl) ?_
  refine lv_iload_n hx hb dL_law_874 rfl (lv_at hl 0 rfl) ?_
  refine lv_iconst (v := 1) hx hb dL_law_875 (by decide) ?_
  refine lv_iadd hx hb dL_law_876 ?_
  refine lv_topi (fun z1 ez1 => ?_)
  have iz1 : z1.toInt = i.toInt + 1 := by rw [ez1]; exact (i_add (X := i.toInt) (Y := 1) rfl (by decide) (by have h8 := i_rng (i); have h9 := i_rng (1); omega) (by have h8 := i_rng (i); have h9 := i_rng (1); omega)).trans (by omega)
  refine va_sld hx hb hX hbl hbA hS (i_in (X := i.toInt + 1) iz1 (by omega) (by omega)) dL_law_877 ?_
  refine lv_topi (fun z2 ez2 => ?_)
  refine lv_aload_n hx hb dL_law_878 rfl (lv_at hl 3 rfl) ?_
  refine lv_iload_n hx hb dL_law_879 rfl (lv_at hl 0 rfl) ?_
  refine lv_iconst (v := 2) hx hb dL_law_880 (by decide) ?_
  refine lv_iadd hx hb dL_law_881 ?_
  refine lv_topi (fun z3 ez3 => ?_)
  have iz3 : z3.toInt = i.toInt + 2 := by rw [ez3]; exact (i_add (X := i.toInt) (Y := 2) rfl (by decide) (by have h8 := i_rng (i); have h9 := i_rng (2); omega) (by have h8 := i_rng (i); have h9 := i_rng (2); omega)).trans (by omega)
  refine va_sld hx hb hX hbl hbA hS (i_in (X := i.toInt + 2) iz3 (by omega) (by omega)) dL_law_882 ?_
  refine lv_topi (fun z4 ez4 => ?_)
  obtain ⟨fs, he⟩ := ShX_he hsx (wi ++ wm)
  refine doVA (n := 2) (As := [.int z2, .int z4]) (rest := []) (wc := wx) (wr := wi ++ wm) hx hb hml hown hts hK hP hD hS hA he rfl hE (u_x_heard l D cI cB cJ cZ cT tz adK adV hsx z2 z4) gL_law_X9_heard rfl rfl rfl (by decide +kernel) ⟨Nat.le_of_ble_eq_true rfl, Nat.le_of_ble_eq_true rfl⟩ hl.1 rfl rfl (Nat.le_of_ble_eq_true rfl) dL_law_883 ⟨show cells + 0 ≤ 600000 from by omega, show slots + 0 ≤ 7302250 from by omega⟩ (fun u H locs hw hP hD hS => ?_)
  have hrx := ShX_r hsx
  have hrm := ShM_r hsm
  obtain ⟨⟨wx, ⟨TN2, TF2⟩⟩, r5⟩ := u
  obtain ⟨hsx, hrel⟩ := hw
  have hsx : ShX cI cB cJ cZ cT ad ai TN2 TF2 wx := hsx
  have hSx : S_x_heard TN TF z2 z4 r5 := hrel.1
  have e1 : TN = TN2 := hrel.2.1.symm
  have e2 : TF = TF2 := hrel.2.2.symm
  subst e1
  subst e2
  have hP := va_P_perm hP (pm_1 wi wm wx)
  have hD := va_D_perm hD (pm_1 wi wm wx)
  refine W.eq (g2 := F0 m 886 ls [.int r5]) rfl ?_
  refine lv_pop hx hb dL_law_886 rfl ?_
  refine lv_aload_n hx hb dL_law_887 rfl (lv_at hl 1 rfl) ?_
  refine lv_aload_n hx hb dL_law_888 rfl (lv_at hl 3 rfl) ?_
  refine lv_iload_n hx hb dL_law_889 rfl (lv_at hl 0 rfl) ?_
  refine lv_iconst (v := 1) hx hb dL_law_890 (by decide) ?_
  refine lv_iadd hx hb dL_law_891 ?_
  refine lv_topi (fun z6 ez6 => ?_)
  have iz6 : z6.toInt = i.toInt + 1 := by rw [ez6]; exact (i_add (X := i.toInt) (Y := 1) rfl (by decide) (by have h8 := i_rng (i); have h9 := i_rng (1); omega) (by have h8 := i_rng (i); have h9 := i_rng (1); omega)).trans (by omega)
  refine va_sld hx hb hX hbl hbA hS (i_in (X := i.toInt + 1) iz6 (by omega) (by omega)) dL_law_892 ?_
  refine lv_topi (fun z7 ez7 => ?_)
  refine lv_aload_n hx hb dL_law_893 rfl (lv_at hl 3 rfl) ?_
  refine lv_iload_n hx hb dL_law_894 rfl (lv_at hl 0 rfl) ?_
  refine lv_iconst (v := 2) hx hb dL_law_895 (by decide) ?_
  refine lv_iadd hx hb dL_law_896 ?_
  refine lv_topi (fun z8 ez8 => ?_)
  have iz8 : z8.toInt = i.toInt + 2 := by rw [ez8]; exact (i_add (X := i.toInt) (Y := 2) rfl (by decide) (by have h8 := i_rng (i); have h9 := i_rng (2); omega) (by have h8 := i_rng (i); have h9 := i_rng (2); omega)).trans (by omega)
  refine va_sld hx hb hX hbl hbA hS (i_in (X := i.toInt + 2) iz8 (by omega) (by omega)) dL_law_897 ?_
  refine lv_topi (fun z9 ez9 => ?_)
  obtain ⟨fs, he⟩ := ShM_he hsm (wi ++ wx)
  refine doVA (n := 2) (As := [.int z7, .int z9]) (rest := []) (wc := wm) (wr := wi ++ wx) hx hb hml hown hts hK hP hD hS hA he rfl hE (u_y_heard l D cI cB cJ cZ cT tz adK adV hsm z7 z9) gL_law_X10_heard rfl rfl rfl (by decide +kernel) ⟨Nat.le_of_ble_eq_true rfl, Nat.le_of_ble_eq_true rfl⟩ hl.1 rfl rfl (Nat.le_of_ble_eq_true rfl) dL_law_898 ⟨show cells + 0 + 0 ≤ 600000 from by omega, show slots + 0 + 0 ≤ 7302250 from by omega⟩ (fun u H locs hw hP hD hS => ?_)
  obtain ⟨⟨wm, M2⟩, r10⟩ := u
  obtain ⟨hsm, hrel⟩ := hw
  have hsm : ShM cI cB cJ cZ cT bd M2 wm := hsm
  have hs0 : z7 = z2 := by rw [ez7, ez2, ez6, ez1]
  have hs1 : z9 = z4 := by rw [ez9, ez4, ez8, ez3]
  have hSy : S_y_heard M z7 z9 r10 := hrel.1
  rw [hs0, hs1] at hSy
  have e1 : M = M2 := hrel.2.symm
  subst e1
  have hrr := heard_sim hTL.1 hrx.2.2.2 hSx hSy
  have hP := va_P_perm hP (pm_2 wi wx wm)
  have hD := va_D_perm hD (pm_2 wi wx wm)
  refine W.eq (g2 := F0 m 901 ls [.int r10]) rfl ?_
  refine lv_pop hx hb dL_law_901 rfl ?_
  refine lv_goto (tgt := 1241) hx hb dL_law_902 (by decide) ?_
  refine W.widen (k := cells + 24) (n := slots + 957) (by omega) (by omega) ?_
  exact kk TN TF M wx wi wm _ _ _ hsx hsi hsm hTL hP hD hS (lv_sub hl [0, 1, 2, 3] rfl)
set_option maxHeartbeats 4000000 in
set_option maxRecDepth 100000 in
theorem law_17 {p : Program} {e : Env} {s : State} {m : MethodId} {below : List Frame} {meth : Method} {c : Code} (l : Launch) {b L : Nat} {xs : Nat → Int32} (hL : L ≤ 3072) (C0 : lw_At p s m meth c b L xs) {D : va_G} {cI cB cJ cZ cT : ClassId} (hK : KK D (tyL cI cB cJ cZ cT) s) {tz adK adV : Nat → Nat} (hE : EE tz adK adV (fun q : Nat => s.heap.size ≤ q) s s.heap) {ad ai bd : Nat} {TN : Nat → Int32} {TF M : Nat → Nat → Int32} {wx wi wm : va_W} (hsx : ShX cI cB cJ cZ cT ad ai TN TF wx) (hsi : ShI cI cB cJ cZ cT ai M wi) (hsm : ShM cI cB cJ cZ cT bd M wm) (hTL : TLg 0 TN TF M) {H : Heap} {locs : List Loc} (hP : va_P D vwCl (wx ++ (wi ++ wm)) H) (hD : va_D (fun q : Nat => s.heap.size ≤ q) (wx ++ (wi ++ wm))) (hS : va_S (fun q : Nat => s.heap.size ≤ q) s.heap H locs) {ls : Array Slot} {i : Int32} (hi : 0 ≤ i.toInt ∧ i.toInt + 6 ≤ L) (hl : lv_has ls 4 [(3, .int i), (2, .ref bd), (1, .ref ad), (0, .ref b)]) {cells slots : Nat} (hc : cells + 24 ≤ 600000) (hss : slots + 957 ≤ 7302250) (kk : ∀ (TN : Nat → Int32) (TF M : Nat → Nat → Int32) (wx wi wm : va_W) (H : Heap) (locs : List Loc) (ls : Array Slot), ShX cI cB cJ cZ cT ad ai TN TF wx → ShI cI cB cJ cZ cT ai M wi → ShM cI cB cJ cZ cT bd M wm → TLg 0 TN TF M → va_P D vwCl (wx ++ (wi ++ wm)) H → va_D (fun q : Nat => s.heap.size ≤ q) (wx ++ (wi ++ wm)) → va_S (fun q : Nat => s.heap.size ≤ q) s.heap H locs → lv_has ls 4 [(3, .int i), (2, .ref bd), (1, .ref ad), (0, .ref b)] → W p l e room_1 s m #[Value.ref b] below meth c H locs (cells + 24) (slots + 957) (lw_Z below #[Value.ref b] s) (F0 m 1241 ls [])) : W p l e room_1 s m #[Value.ref b] below meth c H locs (cells) (slots) (lw_Z below #[Value.ref b] s) (F0 m 905 ls []) := by
  obtain ⟨hx, hb, hr, hml, hown, hts0, hX, hbl, hlocks, hgv⟩ := id C0
  have hown : s.vm.findClass RL = some m.cls := hown
  have hts : ∀ w ∈ lw_tbl, w.before #[Value.ref b] s = true := hts0
  have hA : ∀ q : Nat, s.heap.size ≤ q → (fun q : Nat => s.heap.size ≤ q) q := fun _ h => h
  have hbA : ¬ (fun q : Nat => s.heap.size ≤ q) b := Nat.not_le.mpr hbl
  refine lv_aload_n hx hb dL_law_905 rfl (lv_at hl 2 rfl) ?_
  refine lv_aload_n hx hb dL_law_906 rfl (lv_at hl 3 rfl) ?_
  refine lv_iload_n hx hb dL_law_907 rfl (lv_at hl 0 rfl) ?_
  refine lv_iconst (v := 1) hx hb dL_law_908 (by decide) ?_
  refine lv_iadd hx hb dL_law_909 ?_
  refine lv_topi (fun z1 ez1 => ?_)
  have iz1 : z1.toInt = i.toInt + 1 := by rw [ez1]; exact (i_add (X := i.toInt) (Y := 1) rfl (by decide) (by have h8 := i_rng (i); have h9 := i_rng (1); omega) (by have h8 := i_rng (i); have h9 := i_rng (1); omega)).trans (by omega)
  refine va_sld hx hb hX hbl hbA hS (i_in (X := i.toInt + 1) iz1 (by omega) (by omega)) dL_law_910 ?_
  refine lv_topi (fun z2 ez2 => ?_)
  refine lv_aload_n hx hb dL_law_911 rfl (lv_at hl 3 rfl) ?_
  refine lv_iload_n hx hb dL_law_912 rfl (lv_at hl 0 rfl) ?_
  refine lv_iconst (v := 2) hx hb dL_law_913 (by decide) ?_
  refine lv_iadd hx hb dL_law_914 ?_
  refine lv_topi (fun z3 ez3 => ?_)
  have iz3 : z3.toInt = i.toInt + 2 := by rw [ez3]; exact (i_add (X := i.toInt) (Y := 2) rfl (by decide) (by have h8 := i_rng (i); have h9 := i_rng (2); omega) (by have h8 := i_rng (i); have h9 := i_rng (2); omega)).trans (by omega)
  refine va_sld hx hb hX hbl hbA hS (i_in (X := i.toInt + 2) iz3 (by omega) (by omega)) dL_law_915 ?_
  refine lv_topi (fun z4 ez4 => ?_)
  obtain ⟨fs, he⟩ := ShX_he hsx (wi ++ wm)
  refine doVA (n := 2) (As := [.int z2, .int z4]) (rest := []) (wc := wx) (wr := wi ++ wm) hx hb hml hown hts hK hP hD hS hA he rfl hE (u_x_ways l D cI cB cJ cZ cT tz adK adV hsx z2 z4) gL_law_X9_ways rfl rfl rfl (by decide +kernel) ⟨Nat.le_of_ble_eq_true rfl, Nat.le_of_ble_eq_true rfl⟩ hl.1 rfl rfl (Nat.le_of_ble_eq_true rfl) dL_law_916 ⟨show cells + 0 ≤ 600000 from by omega, show slots + 0 ≤ 7302250 from by omega⟩ (fun u H locs hw hP hD hS => ?_)
  have hrx := ShX_r hsx
  have hrm := ShM_r hsm
  obtain ⟨⟨wx, ⟨TN2, TF2⟩⟩, r5⟩ := u
  obtain ⟨hsx, hrel⟩ := hw
  have hsx : ShX cI cB cJ cZ cT ad ai TN2 TF2 wx := hsx
  have hSx : S_x_ways TN TF z2 z4 r5 := hrel.1
  have e1 : TN = TN2 := hrel.2.1.symm
  have e2 : TF = TF2 := hrel.2.2.symm
  subst e1
  subst e2
  have hP := va_P_perm hP (pm_1 wi wm wx)
  have hD := va_D_perm hD (pm_1 wi wm wx)
  refine W.eq (g2 := F0 m 919 ls [.long r5]) rfl ?_
  refine lv_pop2_2 hx hb dL_law_919 rfl ?_
  refine lv_aload_n hx hb dL_law_920 rfl (lv_at hl 1 rfl) ?_
  refine lv_aload_n hx hb dL_law_921 rfl (lv_at hl 3 rfl) ?_
  refine lv_iload_n hx hb dL_law_922 rfl (lv_at hl 0 rfl) ?_
  refine lv_iconst (v := 1) hx hb dL_law_923 (by decide) ?_
  refine lv_iadd hx hb dL_law_924 ?_
  refine lv_topi (fun z6 ez6 => ?_)
  have iz6 : z6.toInt = i.toInt + 1 := by rw [ez6]; exact (i_add (X := i.toInt) (Y := 1) rfl (by decide) (by have h8 := i_rng (i); have h9 := i_rng (1); omega) (by have h8 := i_rng (i); have h9 := i_rng (1); omega)).trans (by omega)
  refine va_sld hx hb hX hbl hbA hS (i_in (X := i.toInt + 1) iz6 (by omega) (by omega)) dL_law_925 ?_
  refine lv_topi (fun z7 ez7 => ?_)
  refine lv_aload_n hx hb dL_law_926 rfl (lv_at hl 3 rfl) ?_
  refine lv_iload_n hx hb dL_law_927 rfl (lv_at hl 0 rfl) ?_
  refine lv_iconst (v := 2) hx hb dL_law_928 (by decide) ?_
  refine lv_iadd hx hb dL_law_929 ?_
  refine lv_topi (fun z8 ez8 => ?_)
  have iz8 : z8.toInt = i.toInt + 2 := by rw [ez8]; exact (i_add (X := i.toInt) (Y := 2) rfl (by decide) (by have h8 := i_rng (i); have h9 := i_rng (2); omega) (by have h8 := i_rng (i); have h9 := i_rng (2); omega)).trans (by omega)
  refine va_sld hx hb hX hbl hbA hS (i_in (X := i.toInt + 2) iz8 (by omega) (by omega)) dL_law_930 ?_
  refine lv_topi (fun z9 ez9 => ?_)
  obtain ⟨fs, he⟩ := ShM_he hsm (wi ++ wx)
  refine doVA (n := 2) (As := [.int z7, .int z9]) (rest := []) (wc := wm) (wr := wi ++ wx) hx hb hml hown hts hK hP hD hS hA he rfl hE (u_y_ways l D cI cB cJ cZ cT tz adK adV hsm z7 z9) gL_law_X10_ways rfl rfl rfl (by decide +kernel) ⟨Nat.le_of_ble_eq_true rfl, Nat.le_of_ble_eq_true rfl⟩ hl.1 rfl rfl (Nat.le_of_ble_eq_true rfl) dL_law_931 ⟨show cells + 0 + 0 ≤ 600000 from by omega, show slots + 0 + 0 ≤ 7302250 from by omega⟩ (fun u H locs hw hP hD hS => ?_)
  obtain ⟨⟨wm, M2⟩, r10⟩ := u
  obtain ⟨hsm, hrel⟩ := hw
  have hsm : ShM cI cB cJ cZ cT bd M2 wm := hsm
  have hs0 : z7 = z2 := by rw [ez7, ez2, ez6, ez1]
  have hs1 : z9 = z4 := by rw [ez9, ez4, ez8, ez3]
  have hSy : S_y_ways M z7 z9 r10 := hrel.1
  rw [hs0, hs1] at hSy
  have e1 : M = M2 := hrel.2.symm
  subst e1
  have hrr := ways_sim hTL hrx.2.1 hrx.2.2.2 hSx hSy
  have hP := va_P_perm hP (pm_2 wi wx wm)
  have hD := va_D_perm hD (pm_2 wi wx wm)
  refine W.eq (g2 := F0 m 934 ls [.long r10]) rfl ?_
  refine lv_pop2_2 hx hb dL_law_934 rfl ?_
  refine lv_goto (tgt := 1241) hx hb dL_law_935 (by decide) ?_
  refine W.widen (k := cells + 24) (n := slots + 957) (by omega) (by omega) ?_
  exact kk TN TF M wx wi wm _ _ _ hsx hsi hsm hTL hP hD hS (lv_sub hl [0, 1, 2, 3] rfl)
set_option maxHeartbeats 4000000 in
set_option maxRecDepth 100000 in
theorem law_18 {p : Program} {e : Env} {s : State} {m : MethodId} {below : List Frame} {meth : Method} {c : Code} (l : Launch) {b L : Nat} {xs : Nat → Int32} (hL : L ≤ 3072) (C0 : lw_At p s m meth c b L xs) {D : va_G} {cI cB cJ cZ cT : ClassId} (hK : KK D (tyL cI cB cJ cZ cT) s) {tz adK adV : Nat → Nat} (hE : EE tz adK adV (fun q : Nat => s.heap.size ≤ q) s s.heap) {ad ai bd : Nat} {TN : Nat → Int32} {TF M : Nat → Nat → Int32} {wx wi wm : va_W} (hsx : ShX cI cB cJ cZ cT ad ai TN TF wx) (hsi : ShI cI cB cJ cZ cT ai M wi) (hsm : ShM cI cB cJ cZ cT bd M wm) (hTL : TLg 0 TN TF M) {H : Heap} {locs : List Loc} (hP : va_P D vwCl (wx ++ (wi ++ wm)) H) (hD : va_D (fun q : Nat => s.heap.size ≤ q) (wx ++ (wi ++ wm))) (hS : va_S (fun q : Nat => s.heap.size ≤ q) s.heap H locs) {ls : Array Slot} {i : Int32} (hi : 0 ≤ i.toInt ∧ i.toInt + 6 ≤ L) (hl : lv_has ls 4 [(3, .int i), (2, .ref bd), (1, .ref ad), (0, .ref b)]) {cells slots : Nat} (hc : cells + 24 ≤ 600000) (hss : slots + 957 ≤ 7302250) (kk : ∀ (TN : Nat → Int32) (TF M : Nat → Nat → Int32) (wx wi wm : va_W) (H : Heap) (locs : List Loc) (ls : Array Slot), ShX cI cB cJ cZ cT ad ai TN TF wx → ShI cI cB cJ cZ cT ai M wi → ShM cI cB cJ cZ cT bd M wm → TLg 0 TN TF M → va_P D vwCl (wx ++ (wi ++ wm)) H → va_D (fun q : Nat => s.heap.size ≤ q) (wx ++ (wi ++ wm)) → va_S (fun q : Nat => s.heap.size ≤ q) s.heap H locs → lv_has ls 4 [(3, .int i), (2, .ref bd), (1, .ref ad), (0, .ref b)] → W p l e room_1 s m #[Value.ref b] below meth c H locs (cells + 24) (slots + 957) (lw_Z below #[Value.ref b] s) (F0 m 1241 ls [])) : W p l e room_1 s m #[Value.ref b] below meth c H locs (cells) (slots) (lw_Z below #[Value.ref b] s) (F0 m 938 ls []) := by
  obtain ⟨hx, hb, hr, hml, hown, hts0, hX, hbl, hlocks, hgv⟩ := id C0
  have hown : s.vm.findClass RL = some m.cls := hown
  have hts : ∀ w ∈ lw_tbl, w.before #[Value.ref b] s = true := hts0
  have hA : ∀ q : Nat, s.heap.size ≤ q → (fun q : Nat => s.heap.size ≤ q) q := fun _ h => h
  have hbA : ¬ (fun q : Nat => s.heap.size ≤ q) b := Nat.not_le.mpr hbl
  refine lv_aload_n hx hb dL_law_938 rfl (lv_at hl 2 rfl) ?_
  refine lv_aload_n hx hb dL_law_939 rfl (lv_at hl 3 rfl) ?_
  refine lv_iload_n hx hb dL_law_940 rfl (lv_at hl 0 rfl) ?_
  refine lv_iconst (v := 1) hx hb dL_law_941 (by decide) ?_
  refine lv_iadd hx hb dL_law_942 ?_
  refine lv_topi (fun z1 ez1 => ?_)
  have iz1 : z1.toInt = i.toInt + 1 := by rw [ez1]; exact (i_add (X := i.toInt) (Y := 1) rfl (by decide) (by have h8 := i_rng (i); have h9 := i_rng (1); omega) (by have h8 := i_rng (i); have h9 := i_rng (1); omega)).trans (by omega)
  refine va_sld hx hb hX hbl hbA hS (i_in (X := i.toInt + 1) iz1 (by omega) (by omega)) dL_law_943 ?_
  refine lv_topi (fun z2 ez2 => ?_)
  refine lv_aload_n hx hb dL_law_944 rfl (lv_at hl 3 rfl) ?_
  refine lv_iload_n hx hb dL_law_945 rfl (lv_at hl 0 rfl) ?_
  refine lv_iconst (v := 2) hx hb dL_law_946 (by decide) ?_
  refine lv_iadd hx hb dL_law_947 ?_
  refine lv_topi (fun z3 ez3 => ?_)
  have iz3 : z3.toInt = i.toInt + 2 := by rw [ez3]; exact (i_add (X := i.toInt) (Y := 2) rfl (by decide) (by have h8 := i_rng (i); have h9 := i_rng (2); omega) (by have h8 := i_rng (i); have h9 := i_rng (2); omega)).trans (by omega)
  refine va_sld hx hb hX hbl hbA hS (i_in (X := i.toInt + 2) iz3 (by omega) (by omega)) dL_law_948 ?_
  refine lv_topi (fun z4 ez4 => ?_)
  refine lv_aload_n hx hb dL_law_949 rfl (lv_at hl 3 rfl) ?_
  refine lv_iload_n hx hb dL_law_950 rfl (lv_at hl 0 rfl) ?_
  refine lv_iconst (v := 3) hx hb dL_law_951 (by decide) ?_
  refine lv_iadd hx hb dL_law_952 ?_
  refine lv_topi (fun z5 ez5 => ?_)
  have iz5 : z5.toInt = i.toInt + 3 := by rw [ez5]; exact (i_add (X := i.toInt) (Y := 3) rfl (by decide) (by have h8 := i_rng (i); have h9 := i_rng (3); omega) (by have h8 := i_rng (i); have h9 := i_rng (3); omega)).trans (by omega)
  refine va_sld hx hb hX hbl hbA hS (i_in (X := i.toInt + 3) iz5 (by omega) (by omega)) dL_law_953 ?_
  refine lv_topi (fun z6 ez6 => ?_)
  refine lv_aload_n hx hb dL_law_954 rfl (lv_at hl 3 rfl) ?_
  refine lv_iload_n hx hb dL_law_955 rfl (lv_at hl 0 rfl) ?_
  refine lv_iconst (v := 4) hx hb dL_law_956 (by decide) ?_
  refine lv_iadd hx hb dL_law_957 ?_
  refine lv_topi (fun z7 ez7 => ?_)
  have iz7 : z7.toInt = i.toInt + 4 := by rw [ez7]; exact (i_add (X := i.toInt) (Y := 4) rfl (by decide) (by have h8 := i_rng (i); have h9 := i_rng (4); omega) (by have h8 := i_rng (i); have h9 := i_rng (4); omega)).trans (by omega)
  refine va_sld hx hb hX hbl hbA hS (i_in (X := i.toInt + 4) iz7 (by omega) (by omega)) dL_law_958 ?_
  refine lv_topi (fun z8 ez8 => ?_)
  refine bi_eq (tgt := 966) (X := z8.toInt) hx hb rfl dL_law_959 (by decide) (fun c9 => ?_) (fun c9 => ?_)
  · skip
    refine lv_iconst (v := 0) hx hb dL_law_966 (by decide) ?_
    obtain ⟨fs, he⟩ := ShX_he hsx (wi ++ wm)
    refine doVA (n := 4) (As := [.int z2, .int z4, .int z6, .int 0]) (rest := []) (wc := wx) (wr := wi ++ wm) hx hb hml hown hts hK hP hD hS hA he rfl hE (u_x_whose l D cI cB cJ cZ cT tz adK adV hsx z2 z4 z6 0) gL_law_X9_whose rfl rfl rfl (by decide +kernel) ⟨Nat.le_of_ble_eq_true rfl, Nat.le_of_ble_eq_true rfl⟩ hl.1 rfl rfl (Nat.le_of_ble_eq_true rfl) dL_law_967 ⟨show cells + 0 ≤ 600000 from by omega, show slots + 0 ≤ 7302250 from by omega⟩ (fun u H locs hw hP hD hS => ?_)
    have hrx := ShX_r hsx
    have hrm := ShM_r hsm
    obtain ⟨⟨wx, ⟨TN2, TF2⟩⟩, r10⟩ := u
    obtain ⟨hsx, hrel⟩ := hw
    have hsx : ShX cI cB cJ cZ cT ad ai TN2 TF2 wx := hsx
    have hSx : S_x_whose TN TF z2 z4 z6 0 r10 := hrel.1
    have e1 : TN = TN2 := hrel.2.1.symm
    have e2 : TF = TF2 := hrel.2.2.symm
    subst e1
    subst e2
    have hP := va_P_perm hP (pm_1 wi wm wx)
    have hD := va_D_perm hD (pm_1 wi wm wx)
    refine W.eq (g2 := F0 m 970 ls [.int r10]) rfl ?_
    refine lv_aload_n hx hb dL_law_970 rfl (lv_at hl 1 rfl) ?_
    refine lv_aload_n hx hb dL_law_971 rfl (lv_at hl 3 rfl) ?_
    refine lv_iload_n hx hb dL_law_972 rfl (lv_at hl 0 rfl) ?_
    refine lv_iconst (v := 1) hx hb dL_law_973 (by decide) ?_
    refine lv_iadd hx hb dL_law_974 ?_
    refine lv_topi (fun z11 ez11 => ?_)
    have iz11 : z11.toInt = i.toInt + 1 := by rw [ez11]; exact (i_add (X := i.toInt) (Y := 1) rfl (by decide) (by have h8 := i_rng (i); have h9 := i_rng (1); omega) (by have h8 := i_rng (i); have h9 := i_rng (1); omega)).trans (by omega)
    refine va_sld hx hb hX hbl hbA hS (i_in (X := i.toInt + 1) iz11 (by omega) (by omega)) dL_law_975 ?_
    refine lv_topi (fun z12 ez12 => ?_)
    refine lv_aload_n hx hb dL_law_976 rfl (lv_at hl 3 rfl) ?_
    refine lv_iload_n hx hb dL_law_977 rfl (lv_at hl 0 rfl) ?_
    refine lv_iconst (v := 2) hx hb dL_law_978 (by decide) ?_
    refine lv_iadd hx hb dL_law_979 ?_
    refine lv_topi (fun z13 ez13 => ?_)
    have iz13 : z13.toInt = i.toInt + 2 := by rw [ez13]; exact (i_add (X := i.toInt) (Y := 2) rfl (by decide) (by have h8 := i_rng (i); have h9 := i_rng (2); omega) (by have h8 := i_rng (i); have h9 := i_rng (2); omega)).trans (by omega)
    refine va_sld hx hb hX hbl hbA hS (i_in (X := i.toInt + 2) iz13 (by omega) (by omega)) dL_law_980 ?_
    refine lv_topi (fun z14 ez14 => ?_)
    refine lv_aload_n hx hb dL_law_981 rfl (lv_at hl 3 rfl) ?_
    refine lv_iload_n hx hb dL_law_982 rfl (lv_at hl 0 rfl) ?_
    refine lv_iconst (v := 3) hx hb dL_law_983 (by decide) ?_
    refine lv_iadd hx hb dL_law_984 ?_
    refine lv_topi (fun z15 ez15 => ?_)
    have iz15 : z15.toInt = i.toInt + 3 := by rw [ez15]; exact (i_add (X := i.toInt) (Y := 3) rfl (by decide) (by have h8 := i_rng (i); have h9 := i_rng (3); omega) (by have h8 := i_rng (i); have h9 := i_rng (3); omega)).trans (by omega)
    refine va_sld hx hb hX hbl hbA hS (i_in (X := i.toInt + 3) iz15 (by omega) (by omega)) dL_law_985 ?_
    refine lv_topi (fun z16 ez16 => ?_)
    refine lv_aload_n hx hb dL_law_986 rfl (lv_at hl 3 rfl) ?_
    refine lv_iload_n hx hb dL_law_987 rfl (lv_at hl 0 rfl) ?_
    refine lv_iconst (v := 4) hx hb dL_law_988 (by decide) ?_
    refine lv_iadd hx hb dL_law_989 ?_
    refine lv_topi (fun z17 ez17 => ?_)
    have iz17 : z17.toInt = i.toInt + 4 := by rw [ez17]; exact (i_add (X := i.toInt) (Y := 4) rfl (by decide) (by have h8 := i_rng (i); have h9 := i_rng (4); omega) (by have h8 := i_rng (i); have h9 := i_rng (4); omega)).trans (by omega)
    refine va_sld hx hb hX hbl hbA hS (i_in (X := i.toInt + 4) iz17 (by omega) (by omega)) dL_law_990 ?_
    refine lv_topi (fun z18 ez18 => ?_)
    have hsb19 : z18 = z8 := by rw [ez18, ez8, ez17, ez7]
    refine bi_eq (tgt := 998) (X := z18.toInt) hx hb rfl dL_law_991 (by decide) (fun _ => ?_) (fun h => absurd (show z18.toInt = 0 from by rw [hsb19]; omega) h)
    refine lv_iconst (v := 0) hx hb dL_law_998 (by decide) ?_
    obtain ⟨fs, he⟩ := ShM_he hsm (wi ++ wx)
    refine doVA (n := 4) (As := [.int z12, .int z14, .int z16, .int 0]) (rest := [.int r10]) (wc := wm) (wr := wi ++ wx) hx hb hml hown hts hK hP hD hS hA he rfl hE (u_y_whose l D cI cB cJ cZ cT tz adK adV hsm z12 z14 z16 0) gL_law_X10_whose rfl rfl rfl (by decide +kernel) ⟨Nat.le_of_ble_eq_true rfl, Nat.le_of_ble_eq_true rfl⟩ hl.1 rfl rfl (Nat.le_of_ble_eq_true rfl) dL_law_999 ⟨show cells + 0 + 0 ≤ 600000 from by omega, show slots + 0 + 0 ≤ 7302250 from by omega⟩ (fun u H locs hw hP hD hS => ?_)
    obtain ⟨⟨wm, M2⟩, r20⟩ := u
    obtain ⟨hsm, hrel⟩ := hw
    have hsm : ShM cI cB cJ cZ cT bd M2 wm := hsm
    have hs0 : z12 = z2 := by rw [ez12, ez2, ez11, ez1]
    have hs1 : z14 = z4 := by rw [ez14, ez4, ez13, ez3]
    have hs2 : z16 = z6 := by rw [ez16, ez6, ez15, ez5]
    have hSy : S_y_whose M z12 z14 z16 0 r20 := hrel.1
    rw [hs0, hs1, hs2] at hSy
    have e1 : M = M2 := hrel.2.symm
    subst e1
    have hrr := whose_sim hTL hrx.2.1 hrx.2.2.2 hSx hSy
    have hP := va_P_perm hP (pm_2 wi wx wm)
    have hD := va_D_perm hD (pm_2 wi wx wm)
    refine W.eq (g2 := F0 m 1002 ls [.int r20, .int r10]) rfl ?_
    refine bc_eq (tgt := 1241) (X := r10.toInt) (Y := r20.toInt) hx hb rfl rfl dL_law_1002 (by decide) (fun _ => ?_) (fun h => absurd (congrArg Int32.toInt hrr) h)
    refine W.widen (k := cells + 24) (n := slots + 957) (by omega) (by omega) ?_
    exact kk TN TF M wx wi wm _ _ _ hsx hsi hsm hTL hP hD hS (lv_sub hl [0, 1, 2, 3] rfl)
  · skip
    refine lv_iconst (v := 1) hx hb dL_law_962 (by decide) ?_
    refine lv_goto (tgt := 967) hx hb dL_law_963 (by decide) ?_
    obtain ⟨fs, he⟩ := ShX_he hsx (wi ++ wm)
    refine doVA (n := 4) (As := [.int z2, .int z4, .int z6, .int 1]) (rest := []) (wc := wx) (wr := wi ++ wm) hx hb hml hown hts hK hP hD hS hA he rfl hE (u_x_whose l D cI cB cJ cZ cT tz adK adV hsx z2 z4 z6 1) gL_law_X9_whose rfl rfl rfl (by decide +kernel) ⟨Nat.le_of_ble_eq_true rfl, Nat.le_of_ble_eq_true rfl⟩ hl.1 rfl rfl (Nat.le_of_ble_eq_true rfl) dL_law_967 ⟨show cells + 0 ≤ 600000 from by omega, show slots + 0 ≤ 7302250 from by omega⟩ (fun u H locs hw hP hD hS => ?_)
    have hrx := ShX_r hsx
    have hrm := ShM_r hsm
    obtain ⟨⟨wx, ⟨TN2, TF2⟩⟩, r21⟩ := u
    obtain ⟨hsx, hrel⟩ := hw
    have hsx : ShX cI cB cJ cZ cT ad ai TN2 TF2 wx := hsx
    have hSx : S_x_whose TN TF z2 z4 z6 1 r21 := hrel.1
    have e1 : TN = TN2 := hrel.2.1.symm
    have e2 : TF = TF2 := hrel.2.2.symm
    subst e1
    subst e2
    have hP := va_P_perm hP (pm_1 wi wm wx)
    have hD := va_D_perm hD (pm_1 wi wm wx)
    refine W.eq (g2 := F0 m 970 ls [.int r21]) rfl ?_
    refine lv_aload_n hx hb dL_law_970 rfl (lv_at hl 1 rfl) ?_
    refine lv_aload_n hx hb dL_law_971 rfl (lv_at hl 3 rfl) ?_
    refine lv_iload_n hx hb dL_law_972 rfl (lv_at hl 0 rfl) ?_
    refine lv_iconst (v := 1) hx hb dL_law_973 (by decide) ?_
    refine lv_iadd hx hb dL_law_974 ?_
    refine lv_topi (fun z22 ez22 => ?_)
    have iz22 : z22.toInt = i.toInt + 1 := by rw [ez22]; exact (i_add (X := i.toInt) (Y := 1) rfl (by decide) (by have h8 := i_rng (i); have h9 := i_rng (1); omega) (by have h8 := i_rng (i); have h9 := i_rng (1); omega)).trans (by omega)
    refine va_sld hx hb hX hbl hbA hS (i_in (X := i.toInt + 1) iz22 (by omega) (by omega)) dL_law_975 ?_
    refine lv_topi (fun z23 ez23 => ?_)
    refine lv_aload_n hx hb dL_law_976 rfl (lv_at hl 3 rfl) ?_
    refine lv_iload_n hx hb dL_law_977 rfl (lv_at hl 0 rfl) ?_
    refine lv_iconst (v := 2) hx hb dL_law_978 (by decide) ?_
    refine lv_iadd hx hb dL_law_979 ?_
    refine lv_topi (fun z24 ez24 => ?_)
    have iz24 : z24.toInt = i.toInt + 2 := by rw [ez24]; exact (i_add (X := i.toInt) (Y := 2) rfl (by decide) (by have h8 := i_rng (i); have h9 := i_rng (2); omega) (by have h8 := i_rng (i); have h9 := i_rng (2); omega)).trans (by omega)
    refine va_sld hx hb hX hbl hbA hS (i_in (X := i.toInt + 2) iz24 (by omega) (by omega)) dL_law_980 ?_
    refine lv_topi (fun z25 ez25 => ?_)
    refine lv_aload_n hx hb dL_law_981 rfl (lv_at hl 3 rfl) ?_
    refine lv_iload_n hx hb dL_law_982 rfl (lv_at hl 0 rfl) ?_
    refine lv_iconst (v := 3) hx hb dL_law_983 (by decide) ?_
    refine lv_iadd hx hb dL_law_984 ?_
    refine lv_topi (fun z26 ez26 => ?_)
    have iz26 : z26.toInt = i.toInt + 3 := by rw [ez26]; exact (i_add (X := i.toInt) (Y := 3) rfl (by decide) (by have h8 := i_rng (i); have h9 := i_rng (3); omega) (by have h8 := i_rng (i); have h9 := i_rng (3); omega)).trans (by omega)
    refine va_sld hx hb hX hbl hbA hS (i_in (X := i.toInt + 3) iz26 (by omega) (by omega)) dL_law_985 ?_
    refine lv_topi (fun z27 ez27 => ?_)
    refine lv_aload_n hx hb dL_law_986 rfl (lv_at hl 3 rfl) ?_
    refine lv_iload_n hx hb dL_law_987 rfl (lv_at hl 0 rfl) ?_
    refine lv_iconst (v := 4) hx hb dL_law_988 (by decide) ?_
    refine lv_iadd hx hb dL_law_989 ?_
    refine lv_topi (fun z28 ez28 => ?_)
    have iz28 : z28.toInt = i.toInt + 4 := by rw [ez28]; exact (i_add (X := i.toInt) (Y := 4) rfl (by decide) (by have h8 := i_rng (i); have h9 := i_rng (4); omega) (by have h8 := i_rng (i); have h9 := i_rng (4); omega)).trans (by omega)
    refine va_sld hx hb hX hbl hbA hS (i_in (X := i.toInt + 4) iz28 (by omega) (by omega)) dL_law_990 ?_
    refine lv_topi (fun z29 ez29 => ?_)
    have hsb30 : z29 = z8 := by rw [ez29, ez8, ez28, ez7]
    refine bi_eq (tgt := 998) (X := z29.toInt) hx hb rfl dL_law_991 (by decide) (fun h => absurd h (show ¬ z29.toInt = 0 from by rw [hsb30]; omega)) (fun _ => ?_)
    refine lv_iconst (v := 1) hx hb dL_law_994 (by decide) ?_
    refine lv_goto (tgt := 999) hx hb dL_law_995 (by decide) ?_
    obtain ⟨fs, he⟩ := ShM_he hsm (wi ++ wx)
    refine doVA (n := 4) (As := [.int z23, .int z25, .int z27, .int 1]) (rest := [.int r21]) (wc := wm) (wr := wi ++ wx) hx hb hml hown hts hK hP hD hS hA he rfl hE (u_y_whose l D cI cB cJ cZ cT tz adK adV hsm z23 z25 z27 1) gL_law_X10_whose rfl rfl rfl (by decide +kernel) ⟨Nat.le_of_ble_eq_true rfl, Nat.le_of_ble_eq_true rfl⟩ hl.1 rfl rfl (Nat.le_of_ble_eq_true rfl) dL_law_999 ⟨show cells + 0 + 0 ≤ 600000 from by omega, show slots + 0 + 0 ≤ 7302250 from by omega⟩ (fun u H locs hw hP hD hS => ?_)
    obtain ⟨⟨wm, M2⟩, r31⟩ := u
    obtain ⟨hsm, hrel⟩ := hw
    have hsm : ShM cI cB cJ cZ cT bd M2 wm := hsm
    have hs0 : z23 = z2 := by rw [ez23, ez2, ez22, ez1]
    have hs1 : z25 = z4 := by rw [ez25, ez4, ez24, ez3]
    have hs2 : z27 = z6 := by rw [ez27, ez6, ez26, ez5]
    have hSy : S_y_whose M z23 z25 z27 1 r31 := hrel.1
    rw [hs0, hs1, hs2] at hSy
    have e1 : M = M2 := hrel.2.symm
    subst e1
    have hrr := whose_sim hTL hrx.2.1 hrx.2.2.2 hSx hSy
    have hP := va_P_perm hP (pm_2 wi wx wm)
    have hD := va_D_perm hD (pm_2 wi wx wm)
    refine W.eq (g2 := F0 m 1002 ls [.int r31, .int r21]) rfl ?_
    refine bc_eq (tgt := 1241) (X := r21.toInt) (Y := r31.toInt) hx hb rfl rfl dL_law_1002 (by decide) (fun _ => ?_) (fun h => absurd (congrArg Int32.toInt hrr) h)
    refine W.widen (k := cells + 24) (n := slots + 957) (by omega) (by omega) ?_
    exact kk TN TF M wx wi wm _ _ _ hsx hsi hsm hTL hP hD hS (lv_sub hl [0, 1, 2, 3] rfl)
set_option maxHeartbeats 4000000 in
set_option maxRecDepth 100000 in
theorem law_19 {p : Program} {e : Env} {s : State} {m : MethodId} {below : List Frame} {meth : Method} {c : Code} (l : Launch) {b L : Nat} {xs : Nat → Int32} (hL : L ≤ 3072) (C0 : lw_At p s m meth c b L xs) {D : va_G} {cI cB cJ cZ cT : ClassId} (hK : KK D (tyL cI cB cJ cZ cT) s) {tz adK adV : Nat → Nat} (hE : EE tz adK adV (fun q : Nat => s.heap.size ≤ q) s s.heap) {ad ai bd : Nat} {TN : Nat → Int32} {TF M : Nat → Nat → Int32} {wx wi wm : va_W} (hsx : ShX cI cB cJ cZ cT ad ai TN TF wx) (hsi : ShI cI cB cJ cZ cT ai M wi) (hsm : ShM cI cB cJ cZ cT bd M wm) (hTL : TLg 0 TN TF M) {H : Heap} {locs : List Loc} (hP : va_P D vwCl (wx ++ (wi ++ wm)) H) (hD : va_D (fun q : Nat => s.heap.size ≤ q) (wx ++ (wi ++ wm))) (hS : va_S (fun q : Nat => s.heap.size ≤ q) s.heap H locs) {ls : Array Slot} {i : Int32} (hi : 0 ≤ i.toInt ∧ i.toInt + 6 ≤ L) (hl : lv_has ls 4 [(3, .int i), (2, .ref bd), (1, .ref ad), (0, .ref b)]) {cells slots : Nat} (hc : cells + 24 ≤ 600000) (hss : slots + 957 ≤ 7302250) (kk : ∀ (TN : Nat → Int32) (TF M : Nat → Nat → Int32) (wx wi wm : va_W) (H : Heap) (locs : List Loc) (ls : Array Slot), ShX cI cB cJ cZ cT ad ai TN TF wx → ShI cI cB cJ cZ cT ai M wi → ShM cI cB cJ cZ cT bd M wm → TLg 0 TN TF M → va_P D vwCl (wx ++ (wi ++ wm)) H → va_D (fun q : Nat => s.heap.size ≤ q) (wx ++ (wi ++ wm)) → va_S (fun q : Nat => s.heap.size ≤ q) s.heap H locs → lv_has ls 4 [(3, .int i), (2, .ref bd), (1, .ref ad), (0, .ref b)] → W p l e room_1 s m #[Value.ref b] below meth c H locs (cells + 24) (slots + 957) (lw_Z below #[Value.ref b] s) (F0 m 1241 ls [])) : W p l e room_1 s m #[Value.ref b] below meth c H locs (cells) (slots) (lw_Z below #[Value.ref b] s) (F0 m 1007 ls []) := by
  obtain ⟨hx, hb, hr, hml, hown, hts0, hX, hbl, hlocks, hgv⟩ := id C0
  have hown : s.vm.findClass RL = some m.cls := hown
  have hts : ∀ w ∈ lw_tbl, w.before #[Value.ref b] s = true := hts0
  have hA : ∀ q : Nat, s.heap.size ≤ q → (fun q : Nat => s.heap.size ≤ q) q := fun _ h => h
  have hbA : ¬ (fun q : Nat => s.heap.size ≤ q) b := Nat.not_le.mpr hbl
  refine lv_aload_n hx hb dL_law_1007 rfl (lv_at hl 2 rfl) ?_
  refine lv_aload_n hx hb dL_law_1008 rfl (lv_at hl 3 rfl) ?_
  refine lv_iload_n hx hb dL_law_1009 rfl (lv_at hl 0 rfl) ?_
  refine lv_iconst (v := 1) hx hb dL_law_1010 (by decide) ?_
  refine lv_iadd hx hb dL_law_1011 ?_
  refine lv_topi (fun z1 ez1 => ?_)
  have iz1 : z1.toInt = i.toInt + 1 := by rw [ez1]; exact (i_add (X := i.toInt) (Y := 1) rfl (by decide) (by have h8 := i_rng (i); have h9 := i_rng (1); omega) (by have h8 := i_rng (i); have h9 := i_rng (1); omega)).trans (by omega)
  refine va_sld hx hb hX hbl hbA hS (i_in (X := i.toInt + 1) iz1 (by omega) (by omega)) dL_law_1012 ?_
  refine lv_topi (fun z2 ez2 => ?_)
  refine lv_aload_n hx hb dL_law_1013 rfl (lv_at hl 3 rfl) ?_
  refine lv_iload_n hx hb dL_law_1014 rfl (lv_at hl 0 rfl) ?_
  refine lv_iconst (v := 2) hx hb dL_law_1015 (by decide) ?_
  refine lv_iadd hx hb dL_law_1016 ?_
  refine lv_topi (fun z3 ez3 => ?_)
  have iz3 : z3.toInt = i.toInt + 2 := by rw [ez3]; exact (i_add (X := i.toInt) (Y := 2) rfl (by decide) (by have h8 := i_rng (i); have h9 := i_rng (2); omega) (by have h8 := i_rng (i); have h9 := i_rng (2); omega)).trans (by omega)
  refine va_sld hx hb hX hbl hbA hS (i_in (X := i.toInt + 2) iz3 (by omega) (by omega)) dL_law_1017 ?_
  refine lv_topi (fun z4 ez4 => ?_)
  refine lv_aload_n hx hb dL_law_1018 rfl (lv_at hl 3 rfl) ?_
  refine lv_iload_n hx hb dL_law_1019 rfl (lv_at hl 0 rfl) ?_
  refine lv_iconst (v := 3) hx hb dL_law_1020 (by decide) ?_
  refine lv_iadd hx hb dL_law_1021 ?_
  refine lv_topi (fun z5 ez5 => ?_)
  have iz5 : z5.toInt = i.toInt + 3 := by rw [ez5]; exact (i_add (X := i.toInt) (Y := 3) rfl (by decide) (by have h8 := i_rng (i); have h9 := i_rng (3); omega) (by have h8 := i_rng (i); have h9 := i_rng (3); omega)).trans (by omega)
  refine va_sld hx hb hX hbl hbA hS (i_in (X := i.toInt + 3) iz5 (by omega) (by omega)) dL_law_1022 ?_
  refine lv_topi (fun z6 ez6 => ?_)
  refine lv_aload_n hx hb dL_law_1023 rfl (lv_at hl 3 rfl) ?_
  refine lv_iload_n hx hb dL_law_1024 rfl (lv_at hl 0 rfl) ?_
  refine lv_iconst (v := 4) hx hb dL_law_1025 (by decide) ?_
  refine lv_iadd hx hb dL_law_1026 ?_
  refine lv_topi (fun z7 ez7 => ?_)
  have iz7 : z7.toInt = i.toInt + 4 := by rw [ez7]; exact (i_add (X := i.toInt) (Y := 4) rfl (by decide) (by have h8 := i_rng (i); have h9 := i_rng (4); omega) (by have h8 := i_rng (i); have h9 := i_rng (4); omega)).trans (by omega)
  refine va_sld hx hb hX hbl hbA hS (i_in (X := i.toInt + 4) iz7 (by omega) (by omega)) dL_law_1027 ?_
  refine lv_topi (fun z8 ez8 => ?_)
  obtain ⟨fs, he⟩ := ShX_he hsx (wi ++ wm)
  refine doVA (n := 4) (As := [.int z2, .int z4, .int z6, .int z8]) (rest := []) (wc := wx) (wr := wi ++ wm) hx hb hml hown hts hK hP hD hS hA he rfl hE (u_x_drawn l D cI cB cJ cZ cT tz adK adV hsx z2 z4 z6 z8) gL_law_X9_drawn rfl rfl rfl (by decide +kernel) ⟨Nat.le_of_ble_eq_true rfl, Nat.le_of_ble_eq_true rfl⟩ hl.1 rfl rfl (Nat.le_of_ble_eq_true rfl) dL_law_1028 ⟨show cells + 0 ≤ 600000 from by omega, show slots + 0 ≤ 7302250 from by omega⟩ (fun u H locs hw hP hD hS => ?_)
  have hrx := ShX_r hsx
  have hrm := ShM_r hsm
  obtain ⟨⟨wx, ⟨TN2, TF2⟩⟩, r9⟩ := u
  obtain ⟨hsx, hrel⟩ := hw
  have hsx : ShX cI cB cJ cZ cT ad ai TN2 TF2 wx := hsx
  have e1 : TN = TN2 := hrel.1.symm
  have e2 : TF = TF2 := hrel.2.symm
  subst e1
  subst e2
  have hP := va_P_perm hP (pm_1 wi wm wx)
  have hD := va_D_perm hD (pm_1 wi wm wx)
  refine W.eq (g2 := F0 m 1031 ls [.int r9]) rfl ?_
  refine lv_pop hx hb dL_law_1031 rfl ?_
  refine lv_aload_n hx hb dL_law_1032 rfl (lv_at hl 1 rfl) ?_
  refine lv_aload_n hx hb dL_law_1033 rfl (lv_at hl 3 rfl) ?_
  refine lv_iload_n hx hb dL_law_1034 rfl (lv_at hl 0 rfl) ?_
  refine lv_iconst (v := 1) hx hb dL_law_1035 (by decide) ?_
  refine lv_iadd hx hb dL_law_1036 ?_
  refine lv_topi (fun z10 ez10 => ?_)
  have iz10 : z10.toInt = i.toInt + 1 := by rw [ez10]; exact (i_add (X := i.toInt) (Y := 1) rfl (by decide) (by have h8 := i_rng (i); have h9 := i_rng (1); omega) (by have h8 := i_rng (i); have h9 := i_rng (1); omega)).trans (by omega)
  refine va_sld hx hb hX hbl hbA hS (i_in (X := i.toInt + 1) iz10 (by omega) (by omega)) dL_law_1037 ?_
  refine lv_topi (fun z11 ez11 => ?_)
  refine lv_aload_n hx hb dL_law_1038 rfl (lv_at hl 3 rfl) ?_
  refine lv_iload_n hx hb dL_law_1039 rfl (lv_at hl 0 rfl) ?_
  refine lv_iconst (v := 2) hx hb dL_law_1040 (by decide) ?_
  refine lv_iadd hx hb dL_law_1041 ?_
  refine lv_topi (fun z12 ez12 => ?_)
  have iz12 : z12.toInt = i.toInt + 2 := by rw [ez12]; exact (i_add (X := i.toInt) (Y := 2) rfl (by decide) (by have h8 := i_rng (i); have h9 := i_rng (2); omega) (by have h8 := i_rng (i); have h9 := i_rng (2); omega)).trans (by omega)
  refine va_sld hx hb hX hbl hbA hS (i_in (X := i.toInt + 2) iz12 (by omega) (by omega)) dL_law_1042 ?_
  refine lv_topi (fun z13 ez13 => ?_)
  refine lv_aload_n hx hb dL_law_1043 rfl (lv_at hl 3 rfl) ?_
  refine lv_iload_n hx hb dL_law_1044 rfl (lv_at hl 0 rfl) ?_
  refine lv_iconst (v := 3) hx hb dL_law_1045 (by decide) ?_
  refine lv_iadd hx hb dL_law_1046 ?_
  refine lv_topi (fun z14 ez14 => ?_)
  have iz14 : z14.toInt = i.toInt + 3 := by rw [ez14]; exact (i_add (X := i.toInt) (Y := 3) rfl (by decide) (by have h8 := i_rng (i); have h9 := i_rng (3); omega) (by have h8 := i_rng (i); have h9 := i_rng (3); omega)).trans (by omega)
  refine va_sld hx hb hX hbl hbA hS (i_in (X := i.toInt + 3) iz14 (by omega) (by omega)) dL_law_1047 ?_
  refine lv_topi (fun z15 ez15 => ?_)
  refine lv_aload_n hx hb dL_law_1048 rfl (lv_at hl 3 rfl) ?_
  refine lv_iload_n hx hb dL_law_1049 rfl (lv_at hl 0 rfl) ?_
  refine lv_iconst (v := 4) hx hb dL_law_1050 (by decide) ?_
  refine lv_iadd hx hb dL_law_1051 ?_
  refine lv_topi (fun z16 ez16 => ?_)
  have iz16 : z16.toInt = i.toInt + 4 := by rw [ez16]; exact (i_add (X := i.toInt) (Y := 4) rfl (by decide) (by have h8 := i_rng (i); have h9 := i_rng (4); omega) (by have h8 := i_rng (i); have h9 := i_rng (4); omega)).trans (by omega)
  refine va_sld hx hb hX hbl hbA hS (i_in (X := i.toInt + 4) iz16 (by omega) (by omega)) dL_law_1052 ?_
  refine lv_topi (fun z17 ez17 => ?_)
  obtain ⟨fs, he⟩ := ShM_he hsm (wi ++ wx)
  refine doVA (n := 4) (As := [.int z11, .int z13, .int z15, .int z17]) (rest := []) (wc := wm) (wr := wi ++ wx) hx hb hml hown hts hK hP hD hS hA he rfl hE (u_y_drawn l D cI cB cJ cZ cT tz adK adV hsm z11 z13 z15 z17) gL_law_X10_drawn rfl rfl rfl (by decide +kernel) ⟨Nat.le_of_ble_eq_true rfl, Nat.le_of_ble_eq_true rfl⟩ hl.1 rfl rfl (Nat.le_of_ble_eq_true rfl) dL_law_1053 ⟨show cells + 0 + 0 ≤ 600000 from by omega, show slots + 0 + 0 ≤ 7302250 from by omega⟩ (fun u H locs hw hP hD hS => ?_)
  obtain ⟨⟨wm, M2⟩, r18⟩ := u
  obtain ⟨hsm, hrel⟩ := hw
  have hsm : ShM cI cB cJ cZ cT bd M2 wm := hsm
  have e1 : M = M2 := hrel.symm
  subst e1
  have hP := va_P_perm hP (pm_2 wi wx wm)
  have hD := va_D_perm hD (pm_2 wi wx wm)
  refine W.eq (g2 := F0 m 1056 ls [.int r18]) rfl ?_
  refine lv_pop hx hb dL_law_1056 rfl ?_
  refine lv_goto (tgt := 1241) hx hb dL_law_1057 (by decide) ?_
  refine W.widen (k := cells + 24) (n := slots + 957) (by omega) (by omega) ?_
  exact kk TN TF M wx wi wm _ _ _ hsx hsi hsm hTL hP hD hS (lv_sub hl [0, 1, 2, 3] rfl)
set_option maxHeartbeats 4000000 in
set_option maxRecDepth 100000 in
theorem law_20 {p : Program} {e : Env} {s : State} {m : MethodId} {below : List Frame} {meth : Method} {c : Code} (l : Launch) {b L : Nat} {xs : Nat → Int32} (hL : L ≤ 3072) (C0 : lw_At p s m meth c b L xs) {D : va_G} {cI cB cJ cZ cT : ClassId} (hK : KK D (tyL cI cB cJ cZ cT) s) {tz adK adV : Nat → Nat} (hE : EE tz adK adV (fun q : Nat => s.heap.size ≤ q) s s.heap) {ad ai bd : Nat} {TN : Nat → Int32} {TF M : Nat → Nat → Int32} {wx wi wm : va_W} (hsx : ShX cI cB cJ cZ cT ad ai TN TF wx) (hsi : ShI cI cB cJ cZ cT ai M wi) (hsm : ShM cI cB cJ cZ cT bd M wm) (hTL : TLg 0 TN TF M) {H : Heap} {locs : List Loc} (hP : va_P D vwCl (wx ++ (wi ++ wm)) H) (hD : va_D (fun q : Nat => s.heap.size ≤ q) (wx ++ (wi ++ wm))) (hS : va_S (fun q : Nat => s.heap.size ≤ q) s.heap H locs) {ls : Array Slot} {i : Int32} (hi : 0 ≤ i.toInt ∧ i.toInt + 6 ≤ L) (hl : lv_has ls 4 [(3, .int i), (2, .ref bd), (1, .ref ad), (0, .ref b)]) {cells slots : Nat} (hc : cells + 24 ≤ 600000) (hss : slots + 957 ≤ 7302250) (kk : ∀ (TN : Nat → Int32) (TF M : Nat → Nat → Int32) (wx wi wm : va_W) (H : Heap) (locs : List Loc) (ls : Array Slot), ShX cI cB cJ cZ cT ad ai TN TF wx → ShI cI cB cJ cZ cT ai M wi → ShM cI cB cJ cZ cT bd M wm → TLg 0 TN TF M → va_P D vwCl (wx ++ (wi ++ wm)) H → va_D (fun q : Nat => s.heap.size ≤ q) (wx ++ (wi ++ wm)) → va_S (fun q : Nat => s.heap.size ≤ q) s.heap H locs → lv_has ls 4 [(3, .int i), (2, .ref bd), (1, .ref ad), (0, .ref b)] → W p l e room_1 s m #[Value.ref b] below meth c H locs (cells + 24) (slots + 957) (lw_Z below #[Value.ref b] s) (F0 m 1241 ls [])) : W p l e room_1 s m #[Value.ref b] below meth c H locs (cells) (slots) (lw_Z below #[Value.ref b] s) (F0 m 1060 ls []) := by
  obtain ⟨hx, hb, hr, hml, hown, hts0, hX, hbl, hlocks, hgv⟩ := id C0
  have hown : s.vm.findClass RL = some m.cls := hown
  have hts : ∀ w ∈ lw_tbl, w.before #[Value.ref b] s = true := hts0
  have hA : ∀ q : Nat, s.heap.size ≤ q → (fun q : Nat => s.heap.size ≤ q) q := fun _ h => h
  have hbA : ¬ (fun q : Nat => s.heap.size ≤ q) b := Nat.not_le.mpr hbl
  refine lv_aload_n hx hb dL_law_1060 rfl (lv_at hl 2 rfl) ?_
  refine lv_aload_n hx hb dL_law_1061 rfl (lv_at hl 3 rfl) ?_
  refine lv_iload_n hx hb dL_law_1062 rfl (lv_at hl 0 rfl) ?_
  refine lv_iconst (v := 1) hx hb dL_law_1063 (by decide) ?_
  refine lv_iadd hx hb dL_law_1064 ?_
  refine lv_topi (fun z1 ez1 => ?_)
  have iz1 : z1.toInt = i.toInt + 1 := by rw [ez1]; exact (i_add (X := i.toInt) (Y := 1) rfl (by decide) (by have h8 := i_rng (i); have h9 := i_rng (1); omega) (by have h8 := i_rng (i); have h9 := i_rng (1); omega)).trans (by omega)
  refine va_sld hx hb hX hbl hbA hS (i_in (X := i.toInt + 1) iz1 (by omega) (by omega)) dL_law_1065 ?_
  refine lv_topi (fun z2 ez2 => ?_)
  refine lv_aload_n hx hb dL_law_1066 rfl (lv_at hl 3 rfl) ?_
  refine lv_iload_n hx hb dL_law_1067 rfl (lv_at hl 0 rfl) ?_
  refine lv_iconst (v := 2) hx hb dL_law_1068 (by decide) ?_
  refine lv_iadd hx hb dL_law_1069 ?_
  refine lv_topi (fun z3 ez3 => ?_)
  have iz3 : z3.toInt = i.toInt + 2 := by rw [ez3]; exact (i_add (X := i.toInt) (Y := 2) rfl (by decide) (by have h8 := i_rng (i); have h9 := i_rng (2); omega) (by have h8 := i_rng (i); have h9 := i_rng (2); omega)).trans (by omega)
  refine va_sld hx hb hX hbl hbA hS (i_in (X := i.toInt + 2) iz3 (by omega) (by omega)) dL_law_1070 ?_
  refine lv_topi (fun z4 ez4 => ?_)
  refine lv_aload_n hx hb dL_law_1071 rfl (lv_at hl 3 rfl) ?_
  refine lv_iload_n hx hb dL_law_1072 rfl (lv_at hl 0 rfl) ?_
  refine lv_iconst (v := 3) hx hb dL_law_1073 (by decide) ?_
  refine lv_iadd hx hb dL_law_1074 ?_
  refine lv_topi (fun z5 ez5 => ?_)
  have iz5 : z5.toInt = i.toInt + 3 := by rw [ez5]; exact (i_add (X := i.toInt) (Y := 3) rfl (by decide) (by have h8 := i_rng (i); have h9 := i_rng (3); omega) (by have h8 := i_rng (i); have h9 := i_rng (3); omega)).trans (by omega)
  refine va_sld hx hb hX hbl hbA hS (i_in (X := i.toInt + 3) iz5 (by omega) (by omega)) dL_law_1075 ?_
  refine lv_topi (fun z6 ez6 => ?_)
  refine lv_aload_n hx hb dL_law_1076 rfl (lv_at hl 3 rfl) ?_
  refine lv_iload_n hx hb dL_law_1077 rfl (lv_at hl 0 rfl) ?_
  refine lv_iconst (v := 4) hx hb dL_law_1078 (by decide) ?_
  refine lv_iadd hx hb dL_law_1079 ?_
  refine lv_topi (fun z7 ez7 => ?_)
  have iz7 : z7.toInt = i.toInt + 4 := by rw [ez7]; exact (i_add (X := i.toInt) (Y := 4) rfl (by decide) (by have h8 := i_rng (i); have h9 := i_rng (4); omega) (by have h8 := i_rng (i); have h9 := i_rng (4); omega)).trans (by omega)
  refine va_sld hx hb hX hbl hbA hS (i_in (X := i.toInt + 4) iz7 (by omega) (by omega)) dL_law_1080 ?_
  refine lv_topi (fun z8 ez8 => ?_)
  obtain ⟨fs, he⟩ := ShX_he hsx (wi ++ wm)
  refine doVA (n := 4) (As := [.int z2, .int z4, .int z6, .int z8]) (rest := []) (wc := wx) (wr := wi ++ wm) hx hb hml hown hts hK hP hD hS hA he rfl hE (u_x_look l D cI cB cJ cZ cT tz adK adV hsx z2 z4 z6 z8) gL_law_X9_look rfl rfl rfl (by decide +kernel) ⟨Nat.le_of_ble_eq_true rfl, Nat.le_of_ble_eq_true rfl⟩ hl.1 rfl rfl (Nat.le_of_ble_eq_true rfl) dL_law_1081 ⟨show cells + 0 ≤ 600000 from by omega, show slots + 0 ≤ 7302250 from by omega⟩ (fun u H locs hw hP hD hS => ?_)
  have hrx := ShX_r hsx
  have hrm := ShM_r hsm
  obtain ⟨⟨wx, ⟨TN2, TF2⟩⟩, r9⟩ := u
  obtain ⟨hsx, hrel⟩ := hw
  have hsx : ShX cI cB cJ cZ cT ad ai TN2 TF2 wx := hsx
  have e1 : TN = TN2 := hrel.1.symm
  have e2 : TF = TF2 := hrel.2.symm
  subst e1
  subst e2
  have hP := va_P_perm hP (pm_1 wi wm wx)
  have hD := va_D_perm hD (pm_1 wi wm wx)
  refine W.eq (g2 := F0 m 1084 ls [.int r9]) rfl ?_
  refine lv_pop hx hb dL_law_1084 rfl ?_
  refine lv_aload_n hx hb dL_law_1085 rfl (lv_at hl 1 rfl) ?_
  refine lv_aload_n hx hb dL_law_1086 rfl (lv_at hl 3 rfl) ?_
  refine lv_iload_n hx hb dL_law_1087 rfl (lv_at hl 0 rfl) ?_
  refine lv_iconst (v := 1) hx hb dL_law_1088 (by decide) ?_
  refine lv_iadd hx hb dL_law_1089 ?_
  refine lv_topi (fun z10 ez10 => ?_)
  have iz10 : z10.toInt = i.toInt + 1 := by rw [ez10]; exact (i_add (X := i.toInt) (Y := 1) rfl (by decide) (by have h8 := i_rng (i); have h9 := i_rng (1); omega) (by have h8 := i_rng (i); have h9 := i_rng (1); omega)).trans (by omega)
  refine va_sld hx hb hX hbl hbA hS (i_in (X := i.toInt + 1) iz10 (by omega) (by omega)) dL_law_1090 ?_
  refine lv_topi (fun z11 ez11 => ?_)
  refine lv_aload_n hx hb dL_law_1091 rfl (lv_at hl 3 rfl) ?_
  refine lv_iload_n hx hb dL_law_1092 rfl (lv_at hl 0 rfl) ?_
  refine lv_iconst (v := 2) hx hb dL_law_1093 (by decide) ?_
  refine lv_iadd hx hb dL_law_1094 ?_
  refine lv_topi (fun z12 ez12 => ?_)
  have iz12 : z12.toInt = i.toInt + 2 := by rw [ez12]; exact (i_add (X := i.toInt) (Y := 2) rfl (by decide) (by have h8 := i_rng (i); have h9 := i_rng (2); omega) (by have h8 := i_rng (i); have h9 := i_rng (2); omega)).trans (by omega)
  refine va_sld hx hb hX hbl hbA hS (i_in (X := i.toInt + 2) iz12 (by omega) (by omega)) dL_law_1095 ?_
  refine lv_topi (fun z13 ez13 => ?_)
  refine lv_aload_n hx hb dL_law_1096 rfl (lv_at hl 3 rfl) ?_
  refine lv_iload_n hx hb dL_law_1097 rfl (lv_at hl 0 rfl) ?_
  refine lv_iconst (v := 3) hx hb dL_law_1098 (by decide) ?_
  refine lv_iadd hx hb dL_law_1099 ?_
  refine lv_topi (fun z14 ez14 => ?_)
  have iz14 : z14.toInt = i.toInt + 3 := by rw [ez14]; exact (i_add (X := i.toInt) (Y := 3) rfl (by decide) (by have h8 := i_rng (i); have h9 := i_rng (3); omega) (by have h8 := i_rng (i); have h9 := i_rng (3); omega)).trans (by omega)
  refine va_sld hx hb hX hbl hbA hS (i_in (X := i.toInt + 3) iz14 (by omega) (by omega)) dL_law_1100 ?_
  refine lv_topi (fun z15 ez15 => ?_)
  refine lv_aload_n hx hb dL_law_1101 rfl (lv_at hl 3 rfl) ?_
  refine lv_iload_n hx hb dL_law_1102 rfl (lv_at hl 0 rfl) ?_
  refine lv_iconst (v := 4) hx hb dL_law_1103 (by decide) ?_
  refine lv_iadd hx hb dL_law_1104 ?_
  refine lv_topi (fun z16 ez16 => ?_)
  have iz16 : z16.toInt = i.toInt + 4 := by rw [ez16]; exact (i_add (X := i.toInt) (Y := 4) rfl (by decide) (by have h8 := i_rng (i); have h9 := i_rng (4); omega) (by have h8 := i_rng (i); have h9 := i_rng (4); omega)).trans (by omega)
  refine va_sld hx hb hX hbl hbA hS (i_in (X := i.toInt + 4) iz16 (by omega) (by omega)) dL_law_1105 ?_
  refine lv_topi (fun z17 ez17 => ?_)
  obtain ⟨fs, he⟩ := ShM_he hsm (wi ++ wx)
  refine doVA (n := 4) (As := [.int z11, .int z13, .int z15, .int z17]) (rest := []) (wc := wm) (wr := wi ++ wx) hx hb hml hown hts hK hP hD hS hA he rfl hE (u_y_look l D cI cB cJ cZ cT tz adK adV hsm z11 z13 z15 z17) gL_law_X10_look rfl rfl rfl (by decide +kernel) ⟨Nat.le_of_ble_eq_true rfl, Nat.le_of_ble_eq_true rfl⟩ hl.1 rfl rfl (Nat.le_of_ble_eq_true rfl) dL_law_1106 ⟨show cells + 0 + 0 ≤ 600000 from by omega, show slots + 0 + 0 ≤ 7302250 from by omega⟩ (fun u H locs hw hP hD hS => ?_)
  obtain ⟨⟨wm, M2⟩, r18⟩ := u
  obtain ⟨hsm, hrel⟩ := hw
  have hsm : ShM cI cB cJ cZ cT bd M2 wm := hsm
  have e1 : M = M2 := hrel.symm
  subst e1
  have hP := va_P_perm hP (pm_2 wi wx wm)
  have hD := va_D_perm hD (pm_2 wi wx wm)
  refine W.eq (g2 := F0 m 1109 ls [.int r18]) rfl ?_
  refine lv_pop hx hb dL_law_1109 rfl ?_
  refine lv_goto (tgt := 1241) hx hb dL_law_1110 (by decide) ?_
  refine W.widen (k := cells + 24) (n := slots + 957) (by omega) (by omega) ?_
  exact kk TN TF M wx wi wm _ _ _ hsx hsi hsm hTL hP hD hS (lv_sub hl [0, 1, 2, 3] rfl)
set_option maxHeartbeats 4000000 in
set_option maxRecDepth 100000 in
theorem law_21 {p : Program} {e : Env} {s : State} {m : MethodId} {below : List Frame} {meth : Method} {c : Code} (l : Launch) {b L : Nat} {xs : Nat → Int32} (hL : L ≤ 3072) (C0 : lw_At p s m meth c b L xs) {D : va_G} {cI cB cJ cZ cT : ClassId} (hK : KK D (tyL cI cB cJ cZ cT) s) {tz adK adV : Nat → Nat} (hE : EE tz adK adV (fun q : Nat => s.heap.size ≤ q) s s.heap) {ad ai bd : Nat} {TN : Nat → Int32} {TF M : Nat → Nat → Int32} {wx wi wm : va_W} (hsx : ShX cI cB cJ cZ cT ad ai TN TF wx) (hsi : ShI cI cB cJ cZ cT ai M wi) (hsm : ShM cI cB cJ cZ cT bd M wm) (hTL : TLg 0 TN TF M) {H : Heap} {locs : List Loc} (hP : va_P D vwCl (wx ++ (wi ++ wm)) H) (hD : va_D (fun q : Nat => s.heap.size ≤ q) (wx ++ (wi ++ wm))) (hS : va_S (fun q : Nat => s.heap.size ≤ q) s.heap H locs) {ls : Array Slot} {i : Int32} (hi : 0 ≤ i.toInt ∧ i.toInt + 6 ≤ L) (hl : lv_has ls 4 [(3, .int i), (2, .ref bd), (1, .ref ad), (0, .ref b)]) {cells slots : Nat} (hc : cells + 24 ≤ 600000) (hss : slots + 957 ≤ 7302250) (kk : ∀ (TN : Nat → Int32) (TF M : Nat → Nat → Int32) (wx wi wm : va_W) (H : Heap) (locs : List Loc) (ls : Array Slot), ShX cI cB cJ cZ cT ad ai TN TF wx → ShI cI cB cJ cZ cT ai M wi → ShM cI cB cJ cZ cT bd M wm → TLg 0 TN TF M → va_P D vwCl (wx ++ (wi ++ wm)) H → va_D (fun q : Nat => s.heap.size ≤ q) (wx ++ (wi ++ wm)) → va_S (fun q : Nat => s.heap.size ≤ q) s.heap H locs → lv_has ls 4 [(3, .int i), (2, .ref bd), (1, .ref ad), (0, .ref b)] → W p l e room_1 s m #[Value.ref b] below meth c H locs (cells + 24) (slots + 957) (lw_Z below #[Value.ref b] s) (F0 m 1241 ls [])) : W p l e room_1 s m #[Value.ref b] below meth c H locs (cells) (slots) (lw_Z below #[Value.ref b] s) (F0 m 1113 ls []) := by
  obtain ⟨hx, hb, hr, hml, hown, hts0, hX, hbl, hlocks, hgv⟩ := id C0
  have hown : s.vm.findClass RL = some m.cls := hown
  have hts : ∀ w ∈ lw_tbl, w.before #[Value.ref b] s = true := hts0
  have hA : ∀ q : Nat, s.heap.size ≤ q → (fun q : Nat => s.heap.size ≤ q) q := fun _ h => h
  have hbA : ¬ (fun q : Nat => s.heap.size ≤ q) b := Nat.not_le.mpr hbl
  refine lv_aload_n hx hb dL_law_1113 rfl (lv_at hl 2 rfl) ?_
  refine lv_aload_n hx hb dL_law_1114 rfl (lv_at hl 3 rfl) ?_
  refine lv_iload_n hx hb dL_law_1115 rfl (lv_at hl 0 rfl) ?_
  refine lv_iconst (v := 1) hx hb dL_law_1116 (by decide) ?_
  refine lv_iadd hx hb dL_law_1117 ?_
  refine lv_topi (fun z1 ez1 => ?_)
  have iz1 : z1.toInt = i.toInt + 1 := by rw [ez1]; exact (i_add (X := i.toInt) (Y := 1) rfl (by decide) (by have h8 := i_rng (i); have h9 := i_rng (1); omega) (by have h8 := i_rng (i); have h9 := i_rng (1); omega)).trans (by omega)
  refine va_sld hx hb hX hbl hbA hS (i_in (X := i.toInt + 1) iz1 (by omega) (by omega)) dL_law_1118 ?_
  refine lv_topi (fun z2 ez2 => ?_)
  refine lv_aload_n hx hb dL_law_1119 rfl (lv_at hl 3 rfl) ?_
  refine lv_iload_n hx hb dL_law_1120 rfl (lv_at hl 0 rfl) ?_
  refine lv_iconst (v := 2) hx hb dL_law_1121 (by decide) ?_
  refine lv_iadd hx hb dL_law_1122 ?_
  refine lv_topi (fun z3 ez3 => ?_)
  have iz3 : z3.toInt = i.toInt + 2 := by rw [ez3]; exact (i_add (X := i.toInt) (Y := 2) rfl (by decide) (by have h8 := i_rng (i); have h9 := i_rng (2); omega) (by have h8 := i_rng (i); have h9 := i_rng (2); omega)).trans (by omega)
  refine va_sld hx hb hX hbl hbA hS (i_in (X := i.toInt + 2) iz3 (by omega) (by omega)) dL_law_1123 ?_
  refine lv_topi (fun z4 ez4 => ?_)
  refine lv_aload_n hx hb dL_law_1124 rfl (lv_at hl 3 rfl) ?_
  refine lv_iload_n hx hb dL_law_1125 rfl (lv_at hl 0 rfl) ?_
  refine lv_iconst (v := 3) hx hb dL_law_1126 (by decide) ?_
  refine lv_iadd hx hb dL_law_1127 ?_
  refine lv_topi (fun z5 ez5 => ?_)
  have iz5 : z5.toInt = i.toInt + 3 := by rw [ez5]; exact (i_add (X := i.toInt) (Y := 3) rfl (by decide) (by have h8 := i_rng (i); have h9 := i_rng (3); omega) (by have h8 := i_rng (i); have h9 := i_rng (3); omega)).trans (by omega)
  refine va_sld hx hb hX hbl hbA hS (i_in (X := i.toInt + 3) iz5 (by omega) (by omega)) dL_law_1128 ?_
  refine lv_topi (fun z6 ez6 => ?_)
  refine bi_eq (tgt := 1136) (X := z6.toInt) hx hb rfl dL_law_1129 (by decide) (fun c7 => ?_) (fun c7 => ?_)
  · skip
    refine lv_iconst (v := 0) hx hb dL_law_1136 (by decide) ?_
    obtain ⟨fs, he⟩ := ShX_he hsx (wi ++ wm)
    refine doVA (n := 3) (As := [.int z2, .int z4, .int 0]) (rest := []) (wc := wx) (wr := wi ++ wm) hx hb hml hown hts hK hP hD hS hA he rfl hE (u_x_silence l D cI cB cJ cZ cT tz adK adV hsx z2 z4 0) gL_law_X9_silence rfl rfl rfl (by decide +kernel) ⟨Nat.le_of_ble_eq_true rfl, Nat.le_of_ble_eq_true rfl⟩ hl.1 rfl rfl (Nat.le_of_ble_eq_true rfl) dL_law_1137 ⟨show cells + 0 ≤ 600000 from by omega, show slots + 0 ≤ 7302250 from by omega⟩ (fun u H locs hw hP hD hS => ?_)
    have hrx := ShX_r hsx
    have hrm := ShM_r hsm
    obtain ⟨⟨wx, ⟨TN2, TF2⟩⟩, r8⟩ := u
    obtain ⟨hsx, hrel⟩ := hw
    have hsx : ShX cI cB cJ cZ cT ad ai TN2 TF2 wx := hsx
    have e1 : TN = TN2 := hrel.1.symm
    have e2 : TF = TF2 := hrel.2.symm
    subst e1
    subst e2
    have hP := va_P_perm hP (pm_1 wi wm wx)
    have hD := va_D_perm hD (pm_1 wi wm wx)
    refine W.eq (g2 := F0 m 1140 ls [.int r8]) rfl ?_
    refine lv_pop hx hb dL_law_1140 rfl ?_
    refine lv_aload_n hx hb dL_law_1141 rfl (lv_at hl 1 rfl) ?_
    refine lv_aload_n hx hb dL_law_1142 rfl (lv_at hl 3 rfl) ?_
    refine lv_iload_n hx hb dL_law_1143 rfl (lv_at hl 0 rfl) ?_
    refine lv_iconst (v := 1) hx hb dL_law_1144 (by decide) ?_
    refine lv_iadd hx hb dL_law_1145 ?_
    refine lv_topi (fun z9 ez9 => ?_)
    have iz9 : z9.toInt = i.toInt + 1 := by rw [ez9]; exact (i_add (X := i.toInt) (Y := 1) rfl (by decide) (by have h8 := i_rng (i); have h9 := i_rng (1); omega) (by have h8 := i_rng (i); have h9 := i_rng (1); omega)).trans (by omega)
    refine va_sld hx hb hX hbl hbA hS (i_in (X := i.toInt + 1) iz9 (by omega) (by omega)) dL_law_1146 ?_
    refine lv_topi (fun z10 ez10 => ?_)
    refine lv_aload_n hx hb dL_law_1147 rfl (lv_at hl 3 rfl) ?_
    refine lv_iload_n hx hb dL_law_1148 rfl (lv_at hl 0 rfl) ?_
    refine lv_iconst (v := 2) hx hb dL_law_1149 (by decide) ?_
    refine lv_iadd hx hb dL_law_1150 ?_
    refine lv_topi (fun z11 ez11 => ?_)
    have iz11 : z11.toInt = i.toInt + 2 := by rw [ez11]; exact (i_add (X := i.toInt) (Y := 2) rfl (by decide) (by have h8 := i_rng (i); have h9 := i_rng (2); omega) (by have h8 := i_rng (i); have h9 := i_rng (2); omega)).trans (by omega)
    refine va_sld hx hb hX hbl hbA hS (i_in (X := i.toInt + 2) iz11 (by omega) (by omega)) dL_law_1151 ?_
    refine lv_topi (fun z12 ez12 => ?_)
    refine lv_aload_n hx hb dL_law_1152 rfl (lv_at hl 3 rfl) ?_
    refine lv_iload_n hx hb dL_law_1153 rfl (lv_at hl 0 rfl) ?_
    refine lv_iconst (v := 3) hx hb dL_law_1154 (by decide) ?_
    refine lv_iadd hx hb dL_law_1155 ?_
    refine lv_topi (fun z13 ez13 => ?_)
    have iz13 : z13.toInt = i.toInt + 3 := by rw [ez13]; exact (i_add (X := i.toInt) (Y := 3) rfl (by decide) (by have h8 := i_rng (i); have h9 := i_rng (3); omega) (by have h8 := i_rng (i); have h9 := i_rng (3); omega)).trans (by omega)
    refine va_sld hx hb hX hbl hbA hS (i_in (X := i.toInt + 3) iz13 (by omega) (by omega)) dL_law_1156 ?_
    refine lv_topi (fun z14 ez14 => ?_)
    have hsb15 : z14 = z6 := by rw [ez14, ez6, ez13, ez5]
    refine bi_eq (tgt := 1164) (X := z14.toInt) hx hb rfl dL_law_1157 (by decide) (fun _ => ?_) (fun h => absurd (show z14.toInt = 0 from by rw [hsb15]; omega) h)
    refine lv_iconst (v := 0) hx hb dL_law_1164 (by decide) ?_
    obtain ⟨fs, he⟩ := ShM_he hsm (wi ++ wx)
    refine doVA (n := 3) (As := [.int z10, .int z12, .int 0]) (rest := []) (wc := wm) (wr := wi ++ wx) hx hb hml hown hts hK hP hD hS hA he rfl hE (u_y_silence l D cI cB cJ cZ cT tz adK adV hsm z10 z12 0) gL_law_X10_silence rfl rfl rfl (by decide +kernel) ⟨Nat.le_of_ble_eq_true rfl, Nat.le_of_ble_eq_true rfl⟩ hl.1 rfl rfl (Nat.le_of_ble_eq_true rfl) dL_law_1165 ⟨show cells + 0 + 0 ≤ 600000 from by omega, show slots + 0 + 0 ≤ 7302250 from by omega⟩ (fun u H locs hw hP hD hS => ?_)
    obtain ⟨⟨wm, M2⟩, r16⟩ := u
    obtain ⟨hsm, hrel⟩ := hw
    have hsm : ShM cI cB cJ cZ cT bd M2 wm := hsm
    have e1 : M = M2 := hrel.symm
    subst e1
    have hP := va_P_perm hP (pm_2 wi wx wm)
    have hD := va_D_perm hD (pm_2 wi wx wm)
    refine W.eq (g2 := F0 m 1168 ls [.int r16]) rfl ?_
    refine lv_pop hx hb dL_law_1168 rfl ?_
    refine lv_goto (tgt := 1241) hx hb dL_law_1169 (by decide) ?_
    refine W.widen (k := cells + 24) (n := slots + 957) (by omega) (by omega) ?_
    exact kk TN TF M wx wi wm _ _ _ hsx hsi hsm hTL hP hD hS (lv_sub hl [0, 1, 2, 3] rfl)
  · skip
    refine lv_iconst (v := 1) hx hb dL_law_1132 (by decide) ?_
    refine lv_goto (tgt := 1137) hx hb dL_law_1133 (by decide) ?_
    obtain ⟨fs, he⟩ := ShX_he hsx (wi ++ wm)
    refine doVA (n := 3) (As := [.int z2, .int z4, .int 1]) (rest := []) (wc := wx) (wr := wi ++ wm) hx hb hml hown hts hK hP hD hS hA he rfl hE (u_x_silence l D cI cB cJ cZ cT tz adK adV hsx z2 z4 1) gL_law_X9_silence rfl rfl rfl (by decide +kernel) ⟨Nat.le_of_ble_eq_true rfl, Nat.le_of_ble_eq_true rfl⟩ hl.1 rfl rfl (Nat.le_of_ble_eq_true rfl) dL_law_1137 ⟨show cells + 0 ≤ 600000 from by omega, show slots + 0 ≤ 7302250 from by omega⟩ (fun u H locs hw hP hD hS => ?_)
    have hrx := ShX_r hsx
    have hrm := ShM_r hsm
    obtain ⟨⟨wx, ⟨TN2, TF2⟩⟩, r17⟩ := u
    obtain ⟨hsx, hrel⟩ := hw
    have hsx : ShX cI cB cJ cZ cT ad ai TN2 TF2 wx := hsx
    have e1 : TN = TN2 := hrel.1.symm
    have e2 : TF = TF2 := hrel.2.symm
    subst e1
    subst e2
    have hP := va_P_perm hP (pm_1 wi wm wx)
    have hD := va_D_perm hD (pm_1 wi wm wx)
    refine W.eq (g2 := F0 m 1140 ls [.int r17]) rfl ?_
    refine lv_pop hx hb dL_law_1140 rfl ?_
    refine lv_aload_n hx hb dL_law_1141 rfl (lv_at hl 1 rfl) ?_
    refine lv_aload_n hx hb dL_law_1142 rfl (lv_at hl 3 rfl) ?_
    refine lv_iload_n hx hb dL_law_1143 rfl (lv_at hl 0 rfl) ?_
    refine lv_iconst (v := 1) hx hb dL_law_1144 (by decide) ?_
    refine lv_iadd hx hb dL_law_1145 ?_
    refine lv_topi (fun z18 ez18 => ?_)
    have iz18 : z18.toInt = i.toInt + 1 := by rw [ez18]; exact (i_add (X := i.toInt) (Y := 1) rfl (by decide) (by have h8 := i_rng (i); have h9 := i_rng (1); omega) (by have h8 := i_rng (i); have h9 := i_rng (1); omega)).trans (by omega)
    refine va_sld hx hb hX hbl hbA hS (i_in (X := i.toInt + 1) iz18 (by omega) (by omega)) dL_law_1146 ?_
    refine lv_topi (fun z19 ez19 => ?_)
    refine lv_aload_n hx hb dL_law_1147 rfl (lv_at hl 3 rfl) ?_
    refine lv_iload_n hx hb dL_law_1148 rfl (lv_at hl 0 rfl) ?_
    refine lv_iconst (v := 2) hx hb dL_law_1149 (by decide) ?_
    refine lv_iadd hx hb dL_law_1150 ?_
    refine lv_topi (fun z20 ez20 => ?_)
    have iz20 : z20.toInt = i.toInt + 2 := by rw [ez20]; exact (i_add (X := i.toInt) (Y := 2) rfl (by decide) (by have h8 := i_rng (i); have h9 := i_rng (2); omega) (by have h8 := i_rng (i); have h9 := i_rng (2); omega)).trans (by omega)
    refine va_sld hx hb hX hbl hbA hS (i_in (X := i.toInt + 2) iz20 (by omega) (by omega)) dL_law_1151 ?_
    refine lv_topi (fun z21 ez21 => ?_)
    refine lv_aload_n hx hb dL_law_1152 rfl (lv_at hl 3 rfl) ?_
    refine lv_iload_n hx hb dL_law_1153 rfl (lv_at hl 0 rfl) ?_
    refine lv_iconst (v := 3) hx hb dL_law_1154 (by decide) ?_
    refine lv_iadd hx hb dL_law_1155 ?_
    refine lv_topi (fun z22 ez22 => ?_)
    have iz22 : z22.toInt = i.toInt + 3 := by rw [ez22]; exact (i_add (X := i.toInt) (Y := 3) rfl (by decide) (by have h8 := i_rng (i); have h9 := i_rng (3); omega) (by have h8 := i_rng (i); have h9 := i_rng (3); omega)).trans (by omega)
    refine va_sld hx hb hX hbl hbA hS (i_in (X := i.toInt + 3) iz22 (by omega) (by omega)) dL_law_1156 ?_
    refine lv_topi (fun z23 ez23 => ?_)
    have hsb24 : z23 = z6 := by rw [ez23, ez6, ez22, ez5]
    refine bi_eq (tgt := 1164) (X := z23.toInt) hx hb rfl dL_law_1157 (by decide) (fun h => absurd h (show ¬ z23.toInt = 0 from by rw [hsb24]; omega)) (fun _ => ?_)
    refine lv_iconst (v := 1) hx hb dL_law_1160 (by decide) ?_
    refine lv_goto (tgt := 1165) hx hb dL_law_1161 (by decide) ?_
    obtain ⟨fs, he⟩ := ShM_he hsm (wi ++ wx)
    refine doVA (n := 3) (As := [.int z19, .int z21, .int 1]) (rest := []) (wc := wm) (wr := wi ++ wx) hx hb hml hown hts hK hP hD hS hA he rfl hE (u_y_silence l D cI cB cJ cZ cT tz adK adV hsm z19 z21 1) gL_law_X10_silence rfl rfl rfl (by decide +kernel) ⟨Nat.le_of_ble_eq_true rfl, Nat.le_of_ble_eq_true rfl⟩ hl.1 rfl rfl (Nat.le_of_ble_eq_true rfl) dL_law_1165 ⟨show cells + 0 + 0 ≤ 600000 from by omega, show slots + 0 + 0 ≤ 7302250 from by omega⟩ (fun u H locs hw hP hD hS => ?_)
    obtain ⟨⟨wm, M2⟩, r25⟩ := u
    obtain ⟨hsm, hrel⟩ := hw
    have hsm : ShM cI cB cJ cZ cT bd M2 wm := hsm
    have e1 : M = M2 := hrel.symm
    subst e1
    have hP := va_P_perm hP (pm_2 wi wx wm)
    have hD := va_D_perm hD (pm_2 wi wx wm)
    refine W.eq (g2 := F0 m 1168 ls [.int r25]) rfl ?_
    refine lv_pop hx hb dL_law_1168 rfl ?_
    refine lv_goto (tgt := 1241) hx hb dL_law_1169 (by decide) ?_
    refine W.widen (k := cells + 24) (n := slots + 957) (by omega) (by omega) ?_
    exact kk TN TF M wx wi wm _ _ _ hsx hsi hsm hTL hP hD hS (lv_sub hl [0, 1, 2, 3] rfl)
set_option maxHeartbeats 4000000 in
set_option maxRecDepth 100000 in
theorem law_22 {p : Program} {e : Env} {s : State} {m : MethodId} {below : List Frame} {meth : Method} {c : Code} (l : Launch) {b L : Nat} {xs : Nat → Int32} (hL : L ≤ 3072) (C0 : lw_At p s m meth c b L xs) {D : va_G} {cI cB cJ cZ cT : ClassId} (hK : KK D (tyL cI cB cJ cZ cT) s) {tz adK adV : Nat → Nat} (hE : EE tz adK adV (fun q : Nat => s.heap.size ≤ q) s s.heap) {ad ai bd : Nat} {TN : Nat → Int32} {TF M : Nat → Nat → Int32} {wx wi wm : va_W} (hsx : ShX cI cB cJ cZ cT ad ai TN TF wx) (hsi : ShI cI cB cJ cZ cT ai M wi) (hsm : ShM cI cB cJ cZ cT bd M wm) (hTL : TLg 0 TN TF M) {H : Heap} {locs : List Loc} (hP : va_P D vwCl (wx ++ (wi ++ wm)) H) (hD : va_D (fun q : Nat => s.heap.size ≤ q) (wx ++ (wi ++ wm))) (hS : va_S (fun q : Nat => s.heap.size ≤ q) s.heap H locs) {ls : Array Slot} {i : Int32} (hi : 0 ≤ i.toInt ∧ i.toInt + 6 ≤ L) (hl : lv_has ls 4 [(3, .int i), (2, .ref bd), (1, .ref ad), (0, .ref b)]) {cells slots : Nat} (hc : cells + 24 ≤ 600000) (hss : slots + 957 ≤ 7302250) (kk : ∀ (TN : Nat → Int32) (TF M : Nat → Nat → Int32) (wx wi wm : va_W) (H : Heap) (locs : List Loc) (ls : Array Slot), ShX cI cB cJ cZ cT ad ai TN TF wx → ShI cI cB cJ cZ cT ai M wi → ShM cI cB cJ cZ cT bd M wm → TLg 0 TN TF M → va_P D vwCl (wx ++ (wi ++ wm)) H → va_D (fun q : Nat => s.heap.size ≤ q) (wx ++ (wi ++ wm)) → va_S (fun q : Nat => s.heap.size ≤ q) s.heap H locs → lv_has ls 4 [(3, .int i), (2, .ref bd), (1, .ref ad), (0, .ref b)] → W p l e room_1 s m #[Value.ref b] below meth c H locs (cells + 24) (slots + 957) (lw_Z below #[Value.ref b] s) (F0 m 1241 ls [])) : W p l e room_1 s m #[Value.ref b] below meth c H locs (cells) (slots) (lw_Z below #[Value.ref b] s) (F0 m 1172 ls []) := by
  obtain ⟨hx, hb, hr, hml, hown, hts0, hX, hbl, hlocks, hgv⟩ := id C0
  have hown : s.vm.findClass RL = some m.cls := hown
  have hts : ∀ w ∈ lw_tbl, w.before #[Value.ref b] s = true := hts0
  have hA : ∀ q : Nat, s.heap.size ≤ q → (fun q : Nat => s.heap.size ≤ q) q := fun _ h => h
  have hbA : ¬ (fun q : Nat => s.heap.size ≤ q) b := Nat.not_le.mpr hbl
  refine lv_aload_n hx hb dL_law_1172 rfl (lv_at hl 2 rfl) ?_
  refine lv_aload_n hx hb dL_law_1173 rfl (lv_at hl 3 rfl) ?_
  refine lv_iload_n hx hb dL_law_1174 rfl (lv_at hl 0 rfl) ?_
  refine lv_iconst (v := 1) hx hb dL_law_1175 (by decide) ?_
  refine lv_iadd hx hb dL_law_1176 ?_
  refine lv_topi (fun z1 ez1 => ?_)
  have iz1 : z1.toInt = i.toInt + 1 := by rw [ez1]; exact (i_add (X := i.toInt) (Y := 1) rfl (by decide) (by have h8 := i_rng (i); have h9 := i_rng (1); omega) (by have h8 := i_rng (i); have h9 := i_rng (1); omega)).trans (by omega)
  refine va_sld hx hb hX hbl hbA hS (i_in (X := i.toInt + 1) iz1 (by omega) (by omega)) dL_law_1177 ?_
  refine lv_topi (fun z2 ez2 => ?_)
  obtain ⟨fs, he⟩ := ShX_he hsx (wi ++ wm)
  refine doVA (n := 1) (As := [.int z2]) (rest := []) (wc := wx) (wr := wi ++ wm) hx hb hml hown hts hK hP hD hS hA he rfl hE (u_x_count l D cI cB cJ cZ cT tz adK adV hsx z2) gL_law_X9_count rfl rfl rfl (by decide +kernel) ⟨Nat.le_of_ble_eq_true rfl, Nat.le_of_ble_eq_true rfl⟩ hl.1 rfl rfl (Nat.le_of_ble_eq_true rfl) dL_law_1178 ⟨show cells + 0 ≤ 600000 from by omega, show slots + 0 ≤ 7302250 from by omega⟩ (fun u H locs hw hP hD hS => ?_)
  have hrx := ShX_r hsx
  have hrm := ShM_r hsm
  obtain ⟨⟨wx, ⟨TN2, TF2⟩⟩, r3⟩ := u
  obtain ⟨hsx, hrel⟩ := hw
  have hsx : ShX cI cB cJ cZ cT ad ai TN2 TF2 wx := hsx
  have hSx : S_x_count TN TF z2 r3 := hrel.1
  have e1 : TN = TN2 := hrel.2.1.symm
  have e2 : TF = TF2 := hrel.2.2.symm
  subst e1
  subst e2
  have hP := va_P_perm hP (pm_1 wi wm wx)
  have hD := va_D_perm hD (pm_1 wi wm wx)
  refine W.eq (g2 := F0 m 1181 ls [.int r3]) rfl ?_
  refine lv_pop hx hb dL_law_1181 rfl ?_
  refine lv_aload_n hx hb dL_law_1182 rfl (lv_at hl 1 rfl) ?_
  refine lv_aload_n hx hb dL_law_1183 rfl (lv_at hl 3 rfl) ?_
  refine lv_iload_n hx hb dL_law_1184 rfl (lv_at hl 0 rfl) ?_
  refine lv_iconst (v := 1) hx hb dL_law_1185 (by decide) ?_
  refine lv_iadd hx hb dL_law_1186 ?_
  refine lv_topi (fun z4 ez4 => ?_)
  have iz4 : z4.toInt = i.toInt + 1 := by rw [ez4]; exact (i_add (X := i.toInt) (Y := 1) rfl (by decide) (by have h8 := i_rng (i); have h9 := i_rng (1); omega) (by have h8 := i_rng (i); have h9 := i_rng (1); omega)).trans (by omega)
  refine va_sld hx hb hX hbl hbA hS (i_in (X := i.toInt + 1) iz4 (by omega) (by omega)) dL_law_1187 ?_
  refine lv_topi (fun z5 ez5 => ?_)
  obtain ⟨fs, he⟩ := ShM_he hsm (wi ++ wx)
  refine doVA (n := 1) (As := [.int z5]) (rest := []) (wc := wm) (wr := wi ++ wx) hx hb hml hown hts hK hP hD hS hA he rfl hE (u_y_count l D cI cB cJ cZ cT tz adK adV hsm z5) gL_law_X10_count rfl rfl rfl (by decide +kernel) ⟨Nat.le_of_ble_eq_true rfl, Nat.le_of_ble_eq_true rfl⟩ hl.1 rfl rfl (Nat.le_of_ble_eq_true rfl) dL_law_1188 ⟨show cells + 0 + 0 ≤ 600000 from by omega, show slots + 0 + 0 ≤ 7302250 from by omega⟩ (fun u H locs hw hP hD hS => ?_)
  obtain ⟨⟨wm, M2⟩, r6⟩ := u
  obtain ⟨hsm, hrel⟩ := hw
  have hsm : ShM cI cB cJ cZ cT bd M2 wm := hsm
  have hs0 : z5 = z2 := by rw [ez5, ez2, ez4, ez1]
  have hSy : S_y_count M z5 r6 := hrel.1
  rw [hs0] at hSy
  have e1 : M = M2 := hrel.2.symm
  subst e1
  have hrr := count_sim hTL.1 hSx hSy
  have hP := va_P_perm hP (pm_2 wi wx wm)
  have hD := va_D_perm hD (pm_2 wi wx wm)
  refine W.eq (g2 := F0 m 1191 ls [.int r6]) rfl ?_
  refine lv_pop hx hb dL_law_1191 rfl ?_
  refine lv_goto (tgt := 1241) hx hb dL_law_1192 (by decide) ?_
  refine W.widen (k := cells + 24) (n := slots + 957) (by omega) (by omega) ?_
  exact kk TN TF M wx wi wm _ _ _ hsx hsi hsm hTL hP hD hS (lv_sub hl [0, 1, 2, 3] rfl)
set_option maxHeartbeats 4000000 in
set_option maxRecDepth 100000 in
theorem law_23 {p : Program} {e : Env} {s : State} {m : MethodId} {below : List Frame} {meth : Method} {c : Code} (l : Launch) {b L : Nat} {xs : Nat → Int32} (hL : L ≤ 3072) (C0 : lw_At p s m meth c b L xs) {D : va_G} {cI cB cJ cZ cT : ClassId} (hK : KK D (tyL cI cB cJ cZ cT) s) {tz adK adV : Nat → Nat} (hE : EE tz adK adV (fun q : Nat => s.heap.size ≤ q) s s.heap) {ad ai bd : Nat} {TN : Nat → Int32} {TF M : Nat → Nat → Int32} {wx wi wm : va_W} (hsx : ShX cI cB cJ cZ cT ad ai TN TF wx) (hsi : ShI cI cB cJ cZ cT ai M wi) (hsm : ShM cI cB cJ cZ cT bd M wm) (hTL : TLg 0 TN TF M) {H : Heap} {locs : List Loc} (hP : va_P D vwCl (wx ++ (wi ++ wm)) H) (hD : va_D (fun q : Nat => s.heap.size ≤ q) (wx ++ (wi ++ wm))) (hS : va_S (fun q : Nat => s.heap.size ≤ q) s.heap H locs) {ls : Array Slot} {i : Int32} (hi : 0 ≤ i.toInt ∧ i.toInt + 6 ≤ L) (hl : lv_has ls 4 [(3, .int i), (2, .ref bd), (1, .ref ad), (0, .ref b)]) {cells slots : Nat} (hc : cells + 24 ≤ 600000) (hss : slots + 957 ≤ 7302250) (kk : ∀ (TN : Nat → Int32) (TF M : Nat → Nat → Int32) (wx wi wm : va_W) (H : Heap) (locs : List Loc) (ls : Array Slot), ShX cI cB cJ cZ cT ad ai TN TF wx → ShI cI cB cJ cZ cT ai M wi → ShM cI cB cJ cZ cT bd M wm → TLg 0 TN TF M → va_P D vwCl (wx ++ (wi ++ wm)) H → va_D (fun q : Nat => s.heap.size ≤ q) (wx ++ (wi ++ wm)) → va_S (fun q : Nat => s.heap.size ≤ q) s.heap H locs → lv_has ls 4 [(3, .int i), (2, .ref bd), (1, .ref ad), (0, .ref b)] → W p l e room_1 s m #[Value.ref b] below meth c H locs (cells + 24) (slots + 957) (lw_Z below #[Value.ref b] s) (F0 m 1241 ls [])) : W p l e room_1 s m #[Value.ref b] below meth c H locs (cells) (slots) (lw_Z below #[Value.ref b] s) (F0 m 1195 ls []) := by
  obtain ⟨hx, hb, hr, hml, hown, hts0, hX, hbl, hlocks, hgv⟩ := id C0
  have hown : s.vm.findClass RL = some m.cls := hown
  have hts : ∀ w ∈ lw_tbl, w.before #[Value.ref b] s = true := hts0
  have hA : ∀ q : Nat, s.heap.size ≤ q → (fun q : Nat => s.heap.size ≤ q) q := fun _ h => h
  have hbA : ¬ (fun q : Nat => s.heap.size ≤ q) b := Nat.not_le.mpr hbl
  refine lv_aload_n hx hb dL_law_1195 rfl (lv_at hl 2 rfl) ?_
  refine lv_aload_n hx hb dL_law_1196 rfl (lv_at hl 3 rfl) ?_
  refine lv_iload_n hx hb dL_law_1197 rfl (lv_at hl 0 rfl) ?_
  refine lv_iconst (v := 1) hx hb dL_law_1198 (by decide) ?_
  refine lv_iadd hx hb dL_law_1199 ?_
  refine lv_topi (fun z1 ez1 => ?_)
  have iz1 : z1.toInt = i.toInt + 1 := by rw [ez1]; exact (i_add (X := i.toInt) (Y := 1) rfl (by decide) (by have h8 := i_rng (i); have h9 := i_rng (1); omega) (by have h8 := i_rng (i); have h9 := i_rng (1); omega)).trans (by omega)
  refine va_sld hx hb hX hbl hbA hS (i_in (X := i.toInt + 1) iz1 (by omega) (by omega)) dL_law_1200 ?_
  refine lv_topi (fun z2 ez2 => ?_)
  have hrm := ShM_r hsm
  have hrg_z2 := i_rng z2
  rcases (by omega : z2.toInt < 0 ∨ 2 < z2.toInt ∨ (0 ≤ z2.toInt ∧ z2.toInt ≤ 2)) with hx0 | hx0 | hx0
  · skip
    obtain ⟨fs, he⟩ := ShX_he hsx (wi ++ wm)
    refine doVA (n := 1) (As := [.int z2]) (rest := []) (wc := wx) (wr := wi ++ wm) hx hb hml hown hts hK hP hD hS hA he rfl hE (u_x_image_lo l D cI cB cJ cZ cT tz adK adV hsx z2 (by omega)) gL_law_X9_image rfl rfl rfl (by decide +kernel) ⟨Nat.le_of_ble_eq_true rfl, Nat.le_of_ble_eq_true rfl⟩ hl.1 rfl rfl (Nat.le_of_ble_eq_true rfl) dL_law_1201 ⟨show cells + 0 ≤ 600000 from by omega, show slots + 0 ≤ 7302250 from by omega⟩ (fun u H locs hw hP hD hS => ?_)
    obtain ⟨⟨wx, ⟨TN2, TF2⟩⟩, r3⟩ := u
    obtain ⟨hsx, ⟨hl1, hl2⟩, hr_r3⟩ := hw
    have hsx : ShX cI cB cJ cZ cT ad ai TN2 TF2 wx := hsx
    have e1 : TN = TN2 := hl1.symm
    have e2 : TF = TF2 := hl2.symm
    subst e1
    subst e2
    have hr_r3 : r3.toInt = 0 := hr_r3
    have hP := va_P_perm hP (pm_1 wi wm wx)
    have hD := va_D_perm hD (pm_1 wi wm wx)
    refine W.eq (g2 := F0 m 1204 ls [.int r3]) rfl ?_
    refine lv_pop hx hb dL_law_1204 rfl ?_
    refine lv_aload_n hx hb dL_law_1205 rfl (lv_at hl 1 rfl) ?_
    refine lv_aload_n hx hb dL_law_1206 rfl (lv_at hl 3 rfl) ?_
    refine lv_iload_n hx hb dL_law_1207 rfl (lv_at hl 0 rfl) ?_
    refine lv_iconst (v := 1) hx hb dL_law_1208 (by decide) ?_
    refine lv_iadd hx hb dL_law_1209 ?_
    refine lv_topi (fun z4 ez4 => ?_)
    have iz4 : z4.toInt = i.toInt + 1 := by rw [ez4]; exact (i_add (X := i.toInt) (Y := 1) rfl (by decide) (by have h8 := i_rng (i); have h9 := i_rng (1); omega) (by have h8 := i_rng (i); have h9 := i_rng (1); omega)).trans (by omega)
    refine va_sld hx hb hX hbl hbA hS (i_in (X := i.toInt + 1) iz4 (by omega) (by omega)) dL_law_1210 ?_
    refine lv_topi (fun z5 ez5 => ?_)
    obtain ⟨fs, he⟩ := ShM_he hsm (wi ++ wx)
    refine doVA (n := 1) (As := [.int z5]) (rest := []) (wc := wm) (wr := wi ++ wx) hx hb hml hown hts hK hP hD hS hA he rfl hE (u_y_image l D cI cB cJ cZ cT tz adK adV hsm z5) gL_law_X10_image rfl rfl rfl (by decide +kernel) ⟨Nat.le_of_ble_eq_true rfl, Nat.le_of_ble_eq_true rfl⟩ hl.1 rfl rfl (Nat.le_of_ble_eq_true rfl) dL_law_1211 ⟨show cells + 0 + 0 ≤ 600000 from by omega, show slots + 0 + 0 ≤ 7302250 from by omega⟩ (fun u H locs hw hP hD hS => ?_)
    obtain ⟨⟨wm, M2⟩, r6⟩ := u
    obtain ⟨hsm, hrel⟩ := hw
    have hsm : ShM cI cB cJ cZ cT bd M2 wm := hsm
    have hs0 : z5 = z2 := by rw [ez5, ez2, ez4, ez1]
    have hSy : S_y_image M z5 M2 r6 := hrel
    rw [hs0] at hSy
    have hI := image_sp hrm.2 hSy
    rcases hI with ⟨_, h1, _⟩ | ⟨hr2, _, hsl, h8⟩
    · exact absurd h1 (by omega)
    have hTL := TLg_sl hTL (hsl 0)
    have hsi := ShI_sl hsi (fun g _ => hsl g) h8
    have hrw : r3.toInt = (0 : Int32).toInt := hr_r3.trans (by decide)
    have hP := va_P_perm hP (pm_2 wi wx wm)
    have hD := va_D_perm hD (pm_2 wi wx wm)
    refine W.eq (g2 := F0 m 1214 ls [.int r6]) rfl ?_
    refine lv_pop hx hb dL_law_1214 rfl ?_
    refine lv_goto (tgt := 1241) hx hb dL_law_1215 (by decide) ?_
    refine W.widen (k := cells + 24) (n := slots + 957) (by omega) (by omega) ?_
    exact kk TN TF M2 wx wi wm _ _ _ hsx hsi hsm hTL hP hD hS (lv_sub hl [0, 1, 2, 3] rfl)
  · skip
    obtain ⟨fs, he⟩ := ShX_he hsx (wi ++ wm)
    refine doVA (n := 1) (As := [.int z2]) (rest := []) (wc := wx) (wr := wi ++ wm) hx hb hml hown hts hK hP hD hS hA he rfl hE (u_x_image_hi l D cI cB cJ cZ cT tz adK adV hsx z2 (by omega)) gL_law_X9_image rfl rfl rfl (by decide +kernel) ⟨Nat.le_of_ble_eq_true rfl, Nat.le_of_ble_eq_true rfl⟩ hl.1 rfl rfl (Nat.le_of_ble_eq_true rfl) dL_law_1201 ⟨show cells + 0 ≤ 600000 from by omega, show slots + 0 ≤ 7302250 from by omega⟩ (fun u H locs hw hP hD hS => ?_)
    obtain ⟨⟨wx, ⟨TN2, TF2⟩⟩, r7⟩ := u
    obtain ⟨hsx, ⟨hl1, hl2⟩, hr_r7⟩ := hw
    have hsx : ShX cI cB cJ cZ cT ad ai TN2 TF2 wx := hsx
    have e1 : TN = TN2 := hl1.symm
    have e2 : TF = TF2 := hl2.symm
    subst e1
    subst e2
    have hr_r7 : r7.toInt = 0 := hr_r7
    have hP := va_P_perm hP (pm_1 wi wm wx)
    have hD := va_D_perm hD (pm_1 wi wm wx)
    refine W.eq (g2 := F0 m 1204 ls [.int r7]) rfl ?_
    refine lv_pop hx hb dL_law_1204 rfl ?_
    refine lv_aload_n hx hb dL_law_1205 rfl (lv_at hl 1 rfl) ?_
    refine lv_aload_n hx hb dL_law_1206 rfl (lv_at hl 3 rfl) ?_
    refine lv_iload_n hx hb dL_law_1207 rfl (lv_at hl 0 rfl) ?_
    refine lv_iconst (v := 1) hx hb dL_law_1208 (by decide) ?_
    refine lv_iadd hx hb dL_law_1209 ?_
    refine lv_topi (fun z8 ez8 => ?_)
    have iz8 : z8.toInt = i.toInt + 1 := by rw [ez8]; exact (i_add (X := i.toInt) (Y := 1) rfl (by decide) (by have h8 := i_rng (i); have h9 := i_rng (1); omega) (by have h8 := i_rng (i); have h9 := i_rng (1); omega)).trans (by omega)
    refine va_sld hx hb hX hbl hbA hS (i_in (X := i.toInt + 1) iz8 (by omega) (by omega)) dL_law_1210 ?_
    refine lv_topi (fun z9 ez9 => ?_)
    obtain ⟨fs, he⟩ := ShM_he hsm (wi ++ wx)
    refine doVA (n := 1) (As := [.int z9]) (rest := []) (wc := wm) (wr := wi ++ wx) hx hb hml hown hts hK hP hD hS hA he rfl hE (u_y_image l D cI cB cJ cZ cT tz adK adV hsm z9) gL_law_X10_image rfl rfl rfl (by decide +kernel) ⟨Nat.le_of_ble_eq_true rfl, Nat.le_of_ble_eq_true rfl⟩ hl.1 rfl rfl (Nat.le_of_ble_eq_true rfl) dL_law_1211 ⟨show cells + 0 + 0 ≤ 600000 from by omega, show slots + 0 + 0 ≤ 7302250 from by omega⟩ (fun u H locs hw hP hD hS => ?_)
    obtain ⟨⟨wm, M2⟩, r10⟩ := u
    obtain ⟨hsm, hrel⟩ := hw
    have hsm : ShM cI cB cJ cZ cT bd M2 wm := hsm
    have hs0 : z9 = z2 := by rw [ez9, ez2, ez8, ez1]
    have hSy : S_y_image M z9 M2 r10 := hrel
    rw [hs0] at hSy
    have hI := image_sp hrm.2 hSy
    rcases hI with ⟨_, h1, _⟩ | ⟨hr2, _, hsl, h8⟩
    · exact absurd h1 (by omega)
    have hTL := TLg_sl hTL (hsl 0)
    have hsi := ShI_sl hsi (fun g _ => hsl g) h8
    have hrw : r7.toInt = (0 : Int32).toInt := hr_r7.trans (by decide)
    have hP := va_P_perm hP (pm_2 wi wx wm)
    have hD := va_D_perm hD (pm_2 wi wx wm)
    refine W.eq (g2 := F0 m 1214 ls [.int r10]) rfl ?_
    refine lv_pop hx hb dL_law_1214 rfl ?_
    refine lv_goto (tgt := 1241) hx hb dL_law_1215 (by decide) ?_
    refine W.widen (k := cells + 24) (n := slots + 957) (by omega) (by omega) ?_
    exact kk TN TF M2 wx wi wm _ _ _ hsx hsi hsm hTL hP hD hS (lv_sub hl [0, 1, 2, 3] rfl)
  · skip
    obtain ⟨im, G, hG, hpm⟩ := hsi
    have hk3 : Int32.toNatClampNeg z2 < 3 := by rw [cl_eq rfl]; omega
    rcases hG _ hk3 with ⟨him, -, hy⟩ | ⟨jd, UN, UF, him, hT, hy, hTk⟩
    · skip
      have hy : (M 8 z2.toInt.toNat).toInt = 0 := hy
      have hP := va_P_perm hP (pm_3 wx wm hpm)
      have hD := va_D_perm hD (pm_3 wx wm hpm)
      obtain ⟨fs, he⟩ := ShX_he hsx ([IC cT ai im] ++ ((G 0 ++ (G 1 ++ G 2)) ++ wm))
      rw [← List.append_assoc] at he
      refine doVA (n := 1) (As := [.int z2]) (rest := []) (wc := wx ++ [IC cT ai im]) (wr := (G 0 ++ (G 1 ++ G 2)) ++ wm) hx hb hml hown hts hK hP hD hS hA he rfl hE (u_x_image_no l D cI cB cJ cZ cT tz adK adV hsx z2 (by omega) him) gL_law_X9_image rfl rfl rfl (by decide +kernel) ⟨Nat.le_of_ble_eq_true rfl, Nat.le_of_ble_eq_true rfl⟩ hl.1 rfl rfl (Nat.le_of_ble_eq_true rfl) dL_law_1201 ⟨show cells + 24 ≤ 600000 from by omega, show slots + 957 ≤ 7302250 from by omega⟩ (fun u H locs hw hP hD hS => ?_)
      obtain ⟨⟨wx, ⟨j2, ⟨T, UF2⟩⟩⟩, r11⟩ := u
      obtain ⟨hsx, hT2, hcpt, hr_r11⟩ := hw
      have hsx : ShX cI cB cJ cZ cT ad ai TN TF wx := hsx
      have hr_r11 : r11.toInt = 1 := hr_r11
      have hT2 : ShT cI cB cJ cZ cT j2 TN UF2 T := hT2
      have hcpt : CpT TF UF2 := hcpt
      have hsi := ShI_no (ai := ai) hG hk3 him hT2 hTL hcpt
      have hP := va_P_perm hP (pm_4 (G 0 ++ (G 1 ++ G 2)) wm wx (IC cT ai (va_up im (Int32.toNatClampNeg z2) (some j2))) T)
      have hD := va_D_perm hD (pm_4 (G 0 ++ (G 1 ++ G 2)) wm wx (IC cT ai (va_up im (Int32.toNatClampNeg z2) (some j2))) T)
      generalize (IC cT ai (va_up im (Int32.toNatClampNeg z2) (some j2)) :: (T ++ (G 0 ++ (G 1 ++ G 2)))) = wi at hsi hP hD
      refine W.eq (g2 := F0 m 1204 ls [.int r11]) rfl ?_
      refine lv_pop hx hb dL_law_1204 rfl ?_
      refine lv_aload_n hx hb dL_law_1205 rfl (lv_at hl 1 rfl) ?_
      refine lv_aload_n hx hb dL_law_1206 rfl (lv_at hl 3 rfl) ?_
      refine lv_iload_n hx hb dL_law_1207 rfl (lv_at hl 0 rfl) ?_
      refine lv_iconst (v := 1) hx hb dL_law_1208 (by decide) ?_
      refine lv_iadd hx hb dL_law_1209 ?_
      refine lv_topi (fun z12 ez12 => ?_)
      have iz12 : z12.toInt = i.toInt + 1 := by rw [ez12]; exact (i_add (X := i.toInt) (Y := 1) rfl (by decide) (by have h8 := i_rng (i); have h9 := i_rng (1); omega) (by have h8 := i_rng (i); have h9 := i_rng (1); omega)).trans (by omega)
      refine va_sld hx hb hX hbl hbA hS (i_in (X := i.toInt + 1) iz12 (by omega) (by omega)) dL_law_1210 ?_
      refine lv_topi (fun z13 ez13 => ?_)
      obtain ⟨fs, he⟩ := ShM_he hsm (wi ++ wx)
      refine doVA (n := 1) (As := [.int z13]) (rest := []) (wc := wm) (wr := wi ++ wx) hx hb hml hown hts hK hP hD hS hA he rfl hE (u_y_image l D cI cB cJ cZ cT tz adK adV hsm z13) gL_law_X10_image rfl rfl rfl (by decide +kernel) ⟨Nat.le_of_ble_eq_true rfl, Nat.le_of_ble_eq_true rfl⟩ hl.1 rfl rfl (Nat.le_of_ble_eq_true rfl) dL_law_1211 ⟨show cells + 24 + 0 ≤ 600000 from by omega, show slots + 957 + 0 ≤ 7302250 from by omega⟩ (fun u H locs hw hP hD hS => ?_)
      obtain ⟨⟨wm, M2⟩, r14⟩ := u
      obtain ⟨hsm, hrel⟩ := hw
      have hsm : ShM cI cB cJ cZ cT bd M2 wm := hsm
      have hs0 : z13 = z2 := by rw [ez13, ez2, ez12, ez1]
      have hSy : S_y_image M z13 M2 r14 := hrel
      rw [hs0] at hSy
      have hI := image_sp hrm.2 hSy
      rcases hI with ⟨hr2, _, hcp, hsl, h8⟩ | ⟨_, h1, _⟩
      rotate_left
      · exact absurd h1 (by omega)
      have hTL := TLg_sl hTL (hsl 0 (by omega))
      have hsi := hsi M2 hcp hsl h8
      have hrw : r11.toInt = (1 : Int32).toInt := hr_r11.trans (by decide)
      have hP := va_P_perm hP (pm_2 wi wx wm)
      have hD := va_D_perm hD (pm_2 wi wx wm)
      refine W.eq (g2 := F0 m 1214 ls [.int r14]) rfl ?_
      refine lv_pop hx hb dL_law_1214 rfl ?_
      refine lv_goto (tgt := 1241) hx hb dL_law_1215 (by decide) ?_
      refine W.widen (k := cells + 24) (n := slots + 957) (by omega) (by omega) ?_
      exact kk TN TF M2 wx wi wm _ _ _ hsx hsi hsm hTL hP hD hS (lv_sub hl [0, 1, 2, 3] rfl)
    · skip
      have hy : (M 8 z2.toInt.toNat).toInt ≠ 0 := hy
      have hpm := hpm.trans (List.Perm.cons _ (oth_perm (G := G) hk3))
      have hP := va_P_perm hP (pm_6 wx wm hpm)
      have hD := va_D_perm hD (pm_6 wx wm hpm)
      obtain ⟨fs, he⟩ := ShX_he hsx ((IC cT ai im :: G (Int32.toNatClampNeg z2)) ++ (oth G (Int32.toNatClampNeg z2) ++ wm))
      rw [← List.append_assoc] at he
      refine doVA (n := 1) (As := [.int z2]) (rest := []) (wc := wx ++ (IC cT ai im :: G (Int32.toNatClampNeg z2))) (wr := oth G (Int32.toNatClampNeg z2) ++ wm) hx hb hml hown hts hK hP hD hS hA he rfl hE (u_x_image_yes l D cI cB cJ cZ cT tz adK adV hsx hT z2 (by omega) him) gL_law_X9_image rfl rfl rfl (by decide +kernel) ⟨Nat.le_of_ble_eq_true rfl, Nat.le_of_ble_eq_true rfl⟩ hl.1 rfl rfl (Nat.le_of_ble_eq_true rfl) dL_law_1201 ⟨show cells + 0 ≤ 600000 from by omega, show slots + 0 ≤ 7302250 from by omega⟩ (fun u H locs hw hP hD hS => ?_)
      obtain ⟨⟨wx, ⟨j2, ⟨T, UF2⟩⟩⟩, r15⟩ := u
      obtain ⟨hsx, hT2, hcpt, hr_r15⟩ := hw
      have hsx : ShX cI cB cJ cZ cT ad ai TN TF wx := hsx
      have hr_r15 : r15.toInt = 1 := hr_r15
      have hT2 : ShT cI cB cJ cZ cT jd TN UF2 T := hT2
      have hcpt : CpT TF UF2 := hcpt
      have hsi := ShI_yes (ai := ai) hG hk3 him hT2 hTL hcpt
      have hP := va_P_perm hP (pm_4 (oth G (Int32.toNatClampNeg z2)) wm wx (IC cT ai im) T)
      have hD := va_D_perm hD (pm_4 (oth G (Int32.toNatClampNeg z2)) wm wx (IC cT ai im) T)
      generalize (IC cT ai im :: (T ++ oth G (Int32.toNatClampNeg z2))) = wi at hsi hP hD
      refine W.eq (g2 := F0 m 1204 ls [.int r15]) rfl ?_
      refine lv_pop hx hb dL_law_1204 rfl ?_
      refine lv_aload_n hx hb dL_law_1205 rfl (lv_at hl 1 rfl) ?_
      refine lv_aload_n hx hb dL_law_1206 rfl (lv_at hl 3 rfl) ?_
      refine lv_iload_n hx hb dL_law_1207 rfl (lv_at hl 0 rfl) ?_
      refine lv_iconst (v := 1) hx hb dL_law_1208 (by decide) ?_
      refine lv_iadd hx hb dL_law_1209 ?_
      refine lv_topi (fun z16 ez16 => ?_)
      have iz16 : z16.toInt = i.toInt + 1 := by rw [ez16]; exact (i_add (X := i.toInt) (Y := 1) rfl (by decide) (by have h8 := i_rng (i); have h9 := i_rng (1); omega) (by have h8 := i_rng (i); have h9 := i_rng (1); omega)).trans (by omega)
      refine va_sld hx hb hX hbl hbA hS (i_in (X := i.toInt + 1) iz16 (by omega) (by omega)) dL_law_1210 ?_
      refine lv_topi (fun z17 ez17 => ?_)
      obtain ⟨fs, he⟩ := ShM_he hsm (wi ++ wx)
      refine doVA (n := 1) (As := [.int z17]) (rest := []) (wc := wm) (wr := wi ++ wx) hx hb hml hown hts hK hP hD hS hA he rfl hE (u_y_image l D cI cB cJ cZ cT tz adK adV hsm z17) gL_law_X10_image rfl rfl rfl (by decide +kernel) ⟨Nat.le_of_ble_eq_true rfl, Nat.le_of_ble_eq_true rfl⟩ hl.1 rfl rfl (Nat.le_of_ble_eq_true rfl) dL_law_1211 ⟨show cells + 0 + 0 ≤ 600000 from by omega, show slots + 0 + 0 ≤ 7302250 from by omega⟩ (fun u H locs hw hP hD hS => ?_)
      obtain ⟨⟨wm, M2⟩, r18⟩ := u
      obtain ⟨hsm, hrel⟩ := hw
      have hsm : ShM cI cB cJ cZ cT bd M2 wm := hsm
      have hs0 : z17 = z2 := by rw [ez17, ez2, ez16, ez1]
      have hSy : S_y_image M z17 M2 r18 := hrel
      rw [hs0] at hSy
      have hI := image_sp hrm.2 hSy
      rcases hI with ⟨hr2, _, hcp, hsl, h8⟩ | ⟨_, h1, _⟩
      rotate_left
      · exact absurd h1 (by omega)
      have hTL := TLg_sl hTL (hsl 0 (by omega))
      have hsi := hsi M2 hcp hsl h8
      have hrw : r15.toInt = (1 : Int32).toInt := hr_r15.trans (by decide)
      have hP := va_P_perm hP (pm_2 wi wx wm)
      have hD := va_D_perm hD (pm_2 wi wx wm)
      refine W.eq (g2 := F0 m 1214 ls [.int r18]) rfl ?_
      refine lv_pop hx hb dL_law_1214 rfl ?_
      refine lv_goto (tgt := 1241) hx hb dL_law_1215 (by decide) ?_
      refine W.widen (k := cells + 24) (n := slots + 957) (by omega) (by omega) ?_
      exact kk TN TF M2 wx wi wm _ _ _ hsx hsi hsm hTL hP hD hS (lv_sub hl [0, 1, 2, 3] rfl)
set_option maxHeartbeats 4000000 in
set_option maxRecDepth 100000 in
theorem law_24 {p : Program} {e : Env} {s : State} {m : MethodId} {below : List Frame} {meth : Method} {c : Code} (l : Launch) {b L : Nat} {xs : Nat → Int32} (hL : L ≤ 3072) (C0 : lw_At p s m meth c b L xs) {D : va_G} {cI cB cJ cZ cT : ClassId} (hK : KK D (tyL cI cB cJ cZ cT) s) {tz adK adV : Nat → Nat} (hE : EE tz adK adV (fun q : Nat => s.heap.size ≤ q) s s.heap) {ad ai bd : Nat} {TN : Nat → Int32} {TF M : Nat → Nat → Int32} {wx wi wm : va_W} (hsx : ShX cI cB cJ cZ cT ad ai TN TF wx) (hsi : ShI cI cB cJ cZ cT ai M wi) (hsm : ShM cI cB cJ cZ cT bd M wm) (hTL : TLg 0 TN TF M) {H : Heap} {locs : List Loc} (hP : va_P D vwCl (wx ++ (wi ++ wm)) H) (hD : va_D (fun q : Nat => s.heap.size ≤ q) (wx ++ (wi ++ wm))) (hS : va_S (fun q : Nat => s.heap.size ≤ q) s.heap H locs) {ls : Array Slot} {i : Int32} (hi : 0 ≤ i.toInt ∧ i.toInt + 6 ≤ L) (hl : lv_has ls 4 [(3, .int i), (2, .ref bd), (1, .ref ad), (0, .ref b)]) {cells slots : Nat} (hc : cells + 24 ≤ 600000) (hss : slots + 957 ≤ 7302250) (kk : ∀ (TN : Nat → Int32) (TF M : Nat → Nat → Int32) (wx wi wm : va_W) (H : Heap) (locs : List Loc) (ls : Array Slot), ShX cI cB cJ cZ cT ad ai TN TF wx → ShI cI cB cJ cZ cT ai M wi → ShM cI cB cJ cZ cT bd M wm → TLg 0 TN TF M → va_P D vwCl (wx ++ (wi ++ wm)) H → va_D (fun q : Nat => s.heap.size ≤ q) (wx ++ (wi ++ wm)) → va_S (fun q : Nat => s.heap.size ≤ q) s.heap H locs → lv_has ls 4 [(3, .int i), (2, .ref bd), (1, .ref ad), (0, .ref b)] → W p l e room_1 s m #[Value.ref b] below meth c H locs (cells + 24) (slots + 957) (lw_Z below #[Value.ref b] s) (F0 m 1241 ls [])) : W p l e room_1 s m #[Value.ref b] below meth c H locs (cells) (slots) (lw_Z below #[Value.ref b] s) (F0 m 1218 ls []) := by
  obtain ⟨hx, hb, hr, hml, hown, hts0, hX, hbl, hlocks, hgv⟩ := id C0
  have hown : s.vm.findClass RL = some m.cls := hown
  have hts : ∀ w ∈ lw_tbl, w.before #[Value.ref b] s = true := hts0
  have hA : ∀ q : Nat, s.heap.size ≤ q → (fun q : Nat => s.heap.size ≤ q) q := fun _ h => h
  have hbA : ¬ (fun q : Nat => s.heap.size ≤ q) b := Nat.not_le.mpr hbl
  refine lv_aload_n hx hb dL_law_1218 rfl (lv_at hl 2 rfl) ?_
  refine lv_aload_n hx hb dL_law_1219 rfl (lv_at hl 3 rfl) ?_
  refine lv_iload_n hx hb dL_law_1220 rfl (lv_at hl 0 rfl) ?_
  refine lv_iconst (v := 1) hx hb dL_law_1221 (by decide) ?_
  refine lv_iadd hx hb dL_law_1222 ?_
  refine lv_topi (fun z1 ez1 => ?_)
  have iz1 : z1.toInt = i.toInt + 1 := by rw [ez1]; exact (i_add (X := i.toInt) (Y := 1) rfl (by decide) (by have h8 := i_rng (i); have h9 := i_rng (1); omega) (by have h8 := i_rng (i); have h9 := i_rng (1); omega)).trans (by omega)
  refine va_sld hx hb hX hbl hbA hS (i_in (X := i.toInt + 1) iz1 (by omega) (by omega)) dL_law_1223 ?_
  refine lv_topi (fun z2 ez2 => ?_)
  have hrm := ShM_r hsm
  have hrg_z2 := i_rng z2
  rcases (by omega : z2.toInt < 0 ∨ 2 < z2.toInt ∨ (0 ≤ z2.toInt ∧ z2.toInt ≤ 2)) with hx0 | hx0 | hx0
  · skip
    obtain ⟨fs, he⟩ := ShX_he hsx (wi ++ wm)
    refine doVA (n := 1) (As := [.int z2]) (rest := []) (wc := wx) (wr := wi ++ wm) hx hb hml hown hts hK hP hD hS hA he rfl hE (u_x_again_lo l D cI cB cJ cZ cT tz adK adV hsx z2 (by omega)) gL_law_X9_again rfl rfl rfl (by decide +kernel) ⟨Nat.le_of_ble_eq_true rfl, Nat.le_of_ble_eq_true rfl⟩ hl.1 rfl rfl (Nat.le_of_ble_eq_true rfl) dL_law_1224 ⟨show cells + 0 ≤ 600000 from by omega, show slots + 0 ≤ 7302250 from by omega⟩ (fun u H locs hw hP hD hS => ?_)
    obtain ⟨⟨wx, ⟨TN2, TF2⟩⟩, r3⟩ := u
    obtain ⟨hsx, ⟨hl1, hl2⟩, hr_r3⟩ := hw
    have hsx : ShX cI cB cJ cZ cT ad ai TN2 TF2 wx := hsx
    have e1 : TN = TN2 := hl1.symm
    have e2 : TF = TF2 := hl2.symm
    subst e1
    subst e2
    have hr_r3 : r3.toInt = 0 := hr_r3
    have hP := va_P_perm hP (pm_1 wi wm wx)
    have hD := va_D_perm hD (pm_1 wi wm wx)
    refine W.eq (g2 := F0 m 1227 ls [.int r3]) rfl ?_
    refine lv_pop hx hb dL_law_1227 rfl ?_
    refine lv_aload_n hx hb dL_law_1228 rfl (lv_at hl 1 rfl) ?_
    refine lv_aload_n hx hb dL_law_1229 rfl (lv_at hl 3 rfl) ?_
    refine lv_iload_n hx hb dL_law_1230 rfl (lv_at hl 0 rfl) ?_
    refine lv_iconst (v := 1) hx hb dL_law_1231 (by decide) ?_
    refine lv_iadd hx hb dL_law_1232 ?_
    refine lv_topi (fun z4 ez4 => ?_)
    have iz4 : z4.toInt = i.toInt + 1 := by rw [ez4]; exact (i_add (X := i.toInt) (Y := 1) rfl (by decide) (by have h8 := i_rng (i); have h9 := i_rng (1); omega) (by have h8 := i_rng (i); have h9 := i_rng (1); omega)).trans (by omega)
    refine va_sld hx hb hX hbl hbA hS (i_in (X := i.toInt + 1) iz4 (by omega) (by omega)) dL_law_1233 ?_
    refine lv_topi (fun z5 ez5 => ?_)
    obtain ⟨fs, he⟩ := ShM_he hsm (wi ++ wx)
    refine doVA (n := 1) (As := [.int z5]) (rest := []) (wc := wm) (wr := wi ++ wx) hx hb hml hown hts hK hP hD hS hA he rfl hE (u_y_again l D cI cB cJ cZ cT tz adK adV hsm z5) gL_law_X10_again rfl rfl rfl (by decide +kernel) ⟨Nat.le_of_ble_eq_true rfl, Nat.le_of_ble_eq_true rfl⟩ hl.1 rfl rfl (Nat.le_of_ble_eq_true rfl) dL_law_1234 ⟨show cells + 0 + 0 ≤ 600000 from by omega, show slots + 0 + 0 ≤ 7302250 from by omega⟩ (fun u H locs hw hP hD hS => ?_)
    obtain ⟨⟨wm, M2⟩, r6⟩ := u
    obtain ⟨hsm, hrel⟩ := hw
    have hsm : ShM cI cB cJ cZ cT bd M2 wm := hsm
    have hs0 : z5 = z2 := by rw [ez5, ez2, ez4, ez1]
    have hSy : S_y_again M z5 M2 r6 := hrel
    rw [hs0] at hSy
    have hI := again_sp hrm.2 hSy
    obtain ⟨h8, hI⟩ := hI
    rcases hI with ⟨_, h1, h2, _⟩ | ⟨hr2, _, hsl⟩
    · exact absurd h1 (by omega)
    have hTL := TLg_sl hTL (hsl 0)
    have hsi := ShI_sl hsi (fun g _ => hsl g) h8
    have hrw : r3.toInt = (0 : Int32).toInt := hr_r3.trans (by decide)
    have hP := va_P_perm hP (pm_2 wi wx wm)
    have hD := va_D_perm hD (pm_2 wi wx wm)
    refine W.eq (g2 := F0 m 1237 ls [.int r6]) rfl ?_
    refine lv_pop hx hb dL_law_1237 rfl ?_
    refine lv_goto (tgt := 1241) hx hb dL_law_1238 (by decide) ?_
    refine W.widen (k := cells + 24) (n := slots + 957) (by omega) (by omega) ?_
    exact kk TN TF M2 wx wi wm _ _ _ hsx hsi hsm hTL hP hD hS (lv_sub hl [0, 1, 2, 3] rfl)
  · skip
    obtain ⟨fs, he⟩ := ShX_he hsx (wi ++ wm)
    refine doVA (n := 1) (As := [.int z2]) (rest := []) (wc := wx) (wr := wi ++ wm) hx hb hml hown hts hK hP hD hS hA he rfl hE (u_x_again_hi l D cI cB cJ cZ cT tz adK adV hsx z2 (by omega)) gL_law_X9_again rfl rfl rfl (by decide +kernel) ⟨Nat.le_of_ble_eq_true rfl, Nat.le_of_ble_eq_true rfl⟩ hl.1 rfl rfl (Nat.le_of_ble_eq_true rfl) dL_law_1224 ⟨show cells + 0 ≤ 600000 from by omega, show slots + 0 ≤ 7302250 from by omega⟩ (fun u H locs hw hP hD hS => ?_)
    obtain ⟨⟨wx, ⟨TN2, TF2⟩⟩, r7⟩ := u
    obtain ⟨hsx, ⟨hl1, hl2⟩, hr_r7⟩ := hw
    have hsx : ShX cI cB cJ cZ cT ad ai TN2 TF2 wx := hsx
    have e1 : TN = TN2 := hl1.symm
    have e2 : TF = TF2 := hl2.symm
    subst e1
    subst e2
    have hr_r7 : r7.toInt = 0 := hr_r7
    have hP := va_P_perm hP (pm_1 wi wm wx)
    have hD := va_D_perm hD (pm_1 wi wm wx)
    refine W.eq (g2 := F0 m 1227 ls [.int r7]) rfl ?_
    refine lv_pop hx hb dL_law_1227 rfl ?_
    refine lv_aload_n hx hb dL_law_1228 rfl (lv_at hl 1 rfl) ?_
    refine lv_aload_n hx hb dL_law_1229 rfl (lv_at hl 3 rfl) ?_
    refine lv_iload_n hx hb dL_law_1230 rfl (lv_at hl 0 rfl) ?_
    refine lv_iconst (v := 1) hx hb dL_law_1231 (by decide) ?_
    refine lv_iadd hx hb dL_law_1232 ?_
    refine lv_topi (fun z8 ez8 => ?_)
    have iz8 : z8.toInt = i.toInt + 1 := by rw [ez8]; exact (i_add (X := i.toInt) (Y := 1) rfl (by decide) (by have h8 := i_rng (i); have h9 := i_rng (1); omega) (by have h8 := i_rng (i); have h9 := i_rng (1); omega)).trans (by omega)
    refine va_sld hx hb hX hbl hbA hS (i_in (X := i.toInt + 1) iz8 (by omega) (by omega)) dL_law_1233 ?_
    refine lv_topi (fun z9 ez9 => ?_)
    obtain ⟨fs, he⟩ := ShM_he hsm (wi ++ wx)
    refine doVA (n := 1) (As := [.int z9]) (rest := []) (wc := wm) (wr := wi ++ wx) hx hb hml hown hts hK hP hD hS hA he rfl hE (u_y_again l D cI cB cJ cZ cT tz adK adV hsm z9) gL_law_X10_again rfl rfl rfl (by decide +kernel) ⟨Nat.le_of_ble_eq_true rfl, Nat.le_of_ble_eq_true rfl⟩ hl.1 rfl rfl (Nat.le_of_ble_eq_true rfl) dL_law_1234 ⟨show cells + 0 + 0 ≤ 600000 from by omega, show slots + 0 + 0 ≤ 7302250 from by omega⟩ (fun u H locs hw hP hD hS => ?_)
    obtain ⟨⟨wm, M2⟩, r10⟩ := u
    obtain ⟨hsm, hrel⟩ := hw
    have hsm : ShM cI cB cJ cZ cT bd M2 wm := hsm
    have hs0 : z9 = z2 := by rw [ez9, ez2, ez8, ez1]
    have hSy : S_y_again M z9 M2 r10 := hrel
    rw [hs0] at hSy
    have hI := again_sp hrm.2 hSy
    obtain ⟨h8, hI⟩ := hI
    rcases hI with ⟨_, h1, h2, _⟩ | ⟨hr2, _, hsl⟩
    · exact absurd h1 (by omega)
    have hTL := TLg_sl hTL (hsl 0)
    have hsi := ShI_sl hsi (fun g _ => hsl g) h8
    have hrw : r7.toInt = (0 : Int32).toInt := hr_r7.trans (by decide)
    have hP := va_P_perm hP (pm_2 wi wx wm)
    have hD := va_D_perm hD (pm_2 wi wx wm)
    refine W.eq (g2 := F0 m 1237 ls [.int r10]) rfl ?_
    refine lv_pop hx hb dL_law_1237 rfl ?_
    refine lv_goto (tgt := 1241) hx hb dL_law_1238 (by decide) ?_
    refine W.widen (k := cells + 24) (n := slots + 957) (by omega) (by omega) ?_
    exact kk TN TF M2 wx wi wm _ _ _ hsx hsi hsm hTL hP hD hS (lv_sub hl [0, 1, 2, 3] rfl)
  · skip
    obtain ⟨im, G, hG, hpm⟩ := hsi
    have hk3 : Int32.toNatClampNeg z2 < 3 := by rw [cl_eq rfl]; omega
    rcases hG _ hk3 with ⟨him, -, hy⟩ | ⟨jd, UN, UF, him, hT, hy, hTk⟩
    · skip
      have hy : (M 8 z2.toInt.toNat).toInt = 0 := hy
      have hP := va_P_perm hP (pm_3 wx wm hpm)
      have hD := va_D_perm hD (pm_3 wx wm hpm)
      obtain ⟨fs, he⟩ := ShX_he hsx ([IC cT ai im] ++ ((G 0 ++ (G 1 ++ G 2)) ++ wm))
      rw [← List.append_assoc] at he
      refine doVA (n := 1) (As := [.int z2]) (rest := []) (wc := wx ++ [IC cT ai im]) (wr := (G 0 ++ (G 1 ++ G 2)) ++ wm) hx hb hml hown hts hK hP hD hS hA he rfl hE (u_x_again_no l D cI cB cJ cZ cT tz adK adV hsx z2 (by omega) him) gL_law_X9_again rfl rfl rfl (by decide +kernel) ⟨Nat.le_of_ble_eq_true rfl, Nat.le_of_ble_eq_true rfl⟩ hl.1 rfl rfl (Nat.le_of_ble_eq_true rfl) dL_law_1224 ⟨show cells + 0 ≤ 600000 from by omega, show slots + 0 ≤ 7302250 from by omega⟩ (fun u H locs hw hP hD hS => ?_)
      obtain ⟨⟨wx, ⟨j2, ⟨T, UF2⟩⟩⟩, r11⟩ := u
      obtain ⟨hsx, hr_r11⟩ := hw
      have hsx : ShX cI cB cJ cZ cT ad ai TN TF wx := hsx
      have hr_r11 : r11.toInt = 0 := hr_r11
      have hsi := ShI_self (ai := ai) hG
      have hP := va_P_perm hP (pm_5 (G 0 ++ (G 1 ++ G 2)) wm wx (IC cT ai im))
      have hD := va_D_perm hD (pm_5 (G 0 ++ (G 1 ++ G 2)) wm wx (IC cT ai im))
      generalize (IC cT ai im :: (G 0 ++ (G 1 ++ G 2))) = wi at hsi hP hD
      refine W.eq (g2 := F0 m 1227 ls [.int r11]) rfl ?_
      refine lv_pop hx hb dL_law_1227 rfl ?_
      refine lv_aload_n hx hb dL_law_1228 rfl (lv_at hl 1 rfl) ?_
      refine lv_aload_n hx hb dL_law_1229 rfl (lv_at hl 3 rfl) ?_
      refine lv_iload_n hx hb dL_law_1230 rfl (lv_at hl 0 rfl) ?_
      refine lv_iconst (v := 1) hx hb dL_law_1231 (by decide) ?_
      refine lv_iadd hx hb dL_law_1232 ?_
      refine lv_topi (fun z12 ez12 => ?_)
      have iz12 : z12.toInt = i.toInt + 1 := by rw [ez12]; exact (i_add (X := i.toInt) (Y := 1) rfl (by decide) (by have h8 := i_rng (i); have h9 := i_rng (1); omega) (by have h8 := i_rng (i); have h9 := i_rng (1); omega)).trans (by omega)
      refine va_sld hx hb hX hbl hbA hS (i_in (X := i.toInt + 1) iz12 (by omega) (by omega)) dL_law_1233 ?_
      refine lv_topi (fun z13 ez13 => ?_)
      obtain ⟨fs, he⟩ := ShM_he hsm (wi ++ wx)
      refine doVA (n := 1) (As := [.int z13]) (rest := []) (wc := wm) (wr := wi ++ wx) hx hb hml hown hts hK hP hD hS hA he rfl hE (u_y_again l D cI cB cJ cZ cT tz adK adV hsm z13) gL_law_X10_again rfl rfl rfl (by decide +kernel) ⟨Nat.le_of_ble_eq_true rfl, Nat.le_of_ble_eq_true rfl⟩ hl.1 rfl rfl (Nat.le_of_ble_eq_true rfl) dL_law_1234 ⟨show cells + 0 + 0 ≤ 600000 from by omega, show slots + 0 + 0 ≤ 7302250 from by omega⟩ (fun u H locs hw hP hD hS => ?_)
      obtain ⟨⟨wm, M2⟩, r14⟩ := u
      obtain ⟨hsm, hrel⟩ := hw
      have hsm : ShM cI cB cJ cZ cT bd M2 wm := hsm
      have hs0 : z13 = z2 := by rw [ez13, ez2, ez12, ez1]
      have hSy : S_y_again M z13 M2 r14 := hrel
      rw [hs0] at hSy
      have hI := again_sp hrm.2 hSy
      obtain ⟨h8, hI⟩ := hI
      rcases hI with ⟨_, h1, h2, _⟩ | ⟨hr2, _, hsl⟩
      · exact absurd hy h2
      have hTL := TLg_sl hTL (hsl 0)
      have hsi := ShI_sl hsi (fun g _ => hsl g) h8
      have hrw : r11.toInt = (0 : Int32).toInt := hr_r11.trans (by decide)
      have hP := va_P_perm hP (pm_2 wi wx wm)
      have hD := va_D_perm hD (pm_2 wi wx wm)
      refine W.eq (g2 := F0 m 1237 ls [.int r14]) rfl ?_
      refine lv_pop hx hb dL_law_1237 rfl ?_
      refine lv_goto (tgt := 1241) hx hb dL_law_1238 (by decide) ?_
      refine W.widen (k := cells + 24) (n := slots + 957) (by omega) (by omega) ?_
      exact kk TN TF M2 wx wi wm _ _ _ hsx hsi hsm hTL hP hD hS (lv_sub hl [0, 1, 2, 3] rfl)
    · skip
      have hy : (M 8 z2.toInt.toNat).toInt ≠ 0 := hy
      have hpm := hpm.trans (List.Perm.cons _ (oth_perm (G := G) hk3))
      have hP := va_P_perm hP (pm_6 wx wm hpm)
      have hD := va_D_perm hD (pm_6 wx wm hpm)
      obtain ⟨fs, he⟩ := ShX_he hsx ((IC cT ai im :: G (Int32.toNatClampNeg z2)) ++ (oth G (Int32.toNatClampNeg z2) ++ wm))
      rw [← List.append_assoc] at he
      refine doVA (n := 1) (As := [.int z2]) (rest := []) (wc := wx ++ (IC cT ai im :: G (Int32.toNatClampNeg z2))) (wr := oth G (Int32.toNatClampNeg z2) ++ wm) hx hb hml hown hts hK hP hD hS hA he rfl hE (u_x_again_yes l D cI cB cJ cZ cT tz adK adV hsx hT z2 (by omega) him) gL_law_X9_again rfl rfl rfl (by decide +kernel) ⟨Nat.le_of_ble_eq_true rfl, Nat.le_of_ble_eq_true rfl⟩ hl.1 rfl rfl (Nat.le_of_ble_eq_true rfl) dL_law_1224 ⟨show cells + 0 ≤ 600000 from by omega, show slots + 0 ≤ 7302250 from by omega⟩ (fun u H locs hw hP hD hS => ?_)
      obtain ⟨⟨wx, ⟨j2, ⟨T, UF2⟩⟩⟩, r15⟩ := u
      obtain ⟨hsx, hT2, hcpt, hr_r15⟩ := hw
      have hsx : ShX cI cB cJ cZ cT ad ai UN UF2 wx := hsx
      have hr_r15 : r15.toInt = 1 := hr_r15
      have hT2 : ShT cI cB cJ cZ cT jd UN UF T := hT2
      have hcpt : CpT UF UF2 := hcpt
      have hsi := ShI_same (ai := ai) hG hk3 him hT2 hy hTk
      have hP := va_P_perm hP (pm_4 (oth G (Int32.toNatClampNeg z2)) wm wx (IC cT ai im) T)
      have hD := va_D_perm hD (pm_4 (oth G (Int32.toNatClampNeg z2)) wm wx (IC cT ai im) T)
      generalize (IC cT ai im :: (T ++ oth G (Int32.toNatClampNeg z2))) = wi at hsi hP hD
      refine W.eq (g2 := F0 m 1227 ls [.int r15]) rfl ?_
      refine lv_pop hx hb dL_law_1227 rfl ?_
      refine lv_aload_n hx hb dL_law_1228 rfl (lv_at hl 1 rfl) ?_
      refine lv_aload_n hx hb dL_law_1229 rfl (lv_at hl 3 rfl) ?_
      refine lv_iload_n hx hb dL_law_1230 rfl (lv_at hl 0 rfl) ?_
      refine lv_iconst (v := 1) hx hb dL_law_1231 (by decide) ?_
      refine lv_iadd hx hb dL_law_1232 ?_
      refine lv_topi (fun z16 ez16 => ?_)
      have iz16 : z16.toInt = i.toInt + 1 := by rw [ez16]; exact (i_add (X := i.toInt) (Y := 1) rfl (by decide) (by have h8 := i_rng (i); have h9 := i_rng (1); omega) (by have h8 := i_rng (i); have h9 := i_rng (1); omega)).trans (by omega)
      refine va_sld hx hb hX hbl hbA hS (i_in (X := i.toInt + 1) iz16 (by omega) (by omega)) dL_law_1233 ?_
      refine lv_topi (fun z17 ez17 => ?_)
      obtain ⟨fs, he⟩ := ShM_he hsm (wi ++ wx)
      refine doVA (n := 1) (As := [.int z17]) (rest := []) (wc := wm) (wr := wi ++ wx) hx hb hml hown hts hK hP hD hS hA he rfl hE (u_y_again l D cI cB cJ cZ cT tz adK adV hsm z17) gL_law_X10_again rfl rfl rfl (by decide +kernel) ⟨Nat.le_of_ble_eq_true rfl, Nat.le_of_ble_eq_true rfl⟩ hl.1 rfl rfl (Nat.le_of_ble_eq_true rfl) dL_law_1234 ⟨show cells + 0 + 0 ≤ 600000 from by omega, show slots + 0 + 0 ≤ 7302250 from by omega⟩ (fun u H locs hw hP hD hS => ?_)
      obtain ⟨⟨wm, M2⟩, r18⟩ := u
      obtain ⟨hsm, hrel⟩ := hw
      have hsm : ShM cI cB cJ cZ cT bd M2 wm := hsm
      have hs0 : z17 = z2 := by rw [ez17, ez2, ez16, ez1]
      have hSy : S_y_again M z17 M2 r18 := hrel
      rw [hs0] at hSy
      have hI := again_sp hrm.2 hSy
      obtain ⟨h8, hI⟩ := hI
      rcases hI with ⟨hr2, _, _, hcp, hsl⟩ | ⟨_, h1, _⟩
      rotate_left
      · rcases h1 with h1 | h1
        · exact absurd h1 (by omega)
        · exact absurd h1.2 hy
      have hTL := TLg_cp hTk hcp hcpt
      have hsi := hsi M2 hsl h8
      have hrw : r15.toInt = (1 : Int32).toInt := hr_r15.trans (by decide)
      have hP := va_P_perm hP (pm_2 wi wx wm)
      have hD := va_D_perm hD (pm_2 wi wx wm)
      refine W.eq (g2 := F0 m 1237 ls [.int r18]) rfl ?_
      refine lv_pop hx hb dL_law_1237 rfl ?_
      refine lv_goto (tgt := 1241) hx hb dL_law_1238 (by decide) ?_
      refine W.widen (k := cells + 24) (n := slots + 957) (by omega) (by omega) ?_
      exact kk UN UF2 M2 wx wi wm _ _ _ hsx hsi hsm hTL hP hD hS (lv_sub hl [0, 1, 2, 3] rfl)

/-! a whole text in step -/
section READ
variable {n pa ac us ra ch bo de mi : Int32} {t cl ha hu sa ak fl pr hv : Nat → Int32}
variable {u0 : Int32} {u1 : Int32} {u2 : Int32} {u3 : Int32} {u4 : Int32} {u5 : Int32} {u6 : Int32} {u7 : Int32} {u8 : Int32} {u9 : Int32} {u10 : Int32} {u11 : Int32} {u12 : Int32} {u13 : Nat → Int32} {u14 : Nat → Int32} {u15 : Nat → Int32} {u16 : Nat → Int32} {u17 : Nat → Int32} {u18 : Nat → Int32} {u19 : Int32} {u20 : Nat → Int32} {u21 : Int32} {u22 : Nat → Int32} {u23 : Nat → Int32}
theorem kd_0 {f e k : Int} {w : Int64} (hl : ∀ j : Int, f ≤ j → j < e → lt_ (tq t j)) (hfe : f < e) (hw : Wd t f e w) (h : Kd t f e 0 6 k) : (k = -1 ∧ w ≠ 1885432941 ∧ w ≠ 418280402802 ∧ w ≠ 129138752120178 ∧ w ≠ 1918989413 ∧ w ≠ 426953241460 ∧ w ≠ 108230800994167) ∨ (k = 0 ∧ w = 1885432941) ∨ (k = 1 ∧ w = 418280402802) ∨ (k = 2 ∧ w = 129138752120178) ∨ (k = 3 ∧ w = 1918989413) ∨ (k = 4 ∧ w = 426953241460) ∨ (k = 5 ∧ w = 108230800994167) := by
  have s0 := spw_0 hl hfe hw
  have s1 := spw_1 hl hfe hw
  have s2 := spw_2 hl hfe hw
  have s3 := spw_3 hl hfe hw
  have s4 := spw_4 hl hfe hw
  have s5 := spw_5 hl hfe hw
  rcases h with ⟨h1, h2⟩ | ⟨h1, h2, h3⟩
  · refine Or.inl ⟨h1, ?_, ?_, ?_, ?_, ?_, ?_⟩
    · rcases s0 with ⟨p, -⟩ | ⟨-, p⟩
      · exact absurd p (h2 0 (by decide) (by decide))
      · exact p
    · rcases s1 with ⟨p, -⟩ | ⟨-, p⟩
      · exact absurd p (h2 1 (by decide) (by decide))
      · exact p
    · rcases s2 with ⟨p, -⟩ | ⟨-, p⟩
      · exact absurd p (h2 2 (by decide) (by decide))
      · exact p
    · rcases s3 with ⟨p, -⟩ | ⟨-, p⟩
      · exact absurd p (h2 3 (by decide) (by decide))
      · exact p
    · rcases s4 with ⟨p, -⟩ | ⟨-, p⟩
      · exact absurd p (h2 4 (by decide) (by decide))
      · exact p
    · rcases s5 with ⟨p, -⟩ | ⟨-, p⟩
      · exact absurd p (h2 5 (by decide) (by decide))
      · exact p
  · rcases (by omega : k = 0 ∨ k = 1 ∨ k = 2 ∨ k = 3 ∨ k = 4 ∨ k = 5) with rfl | rfl | rfl | rfl | rfl | rfl
    · rcases s0 with ⟨-, p⟩ | ⟨p, -⟩
      · exact Or.inr (Or.inl ⟨rfl, p⟩)
      · exact absurd h3 p
    · rcases s1 with ⟨-, p⟩ | ⟨p, -⟩
      · exact Or.inr (Or.inr (Or.inl ⟨rfl, p⟩))
      · exact absurd h3 p
    · rcases s2 with ⟨-, p⟩ | ⟨p, -⟩
      · exact Or.inr (Or.inr (Or.inr (Or.inl ⟨rfl, p⟩)))
      · exact absurd h3 p
    · rcases s3 with ⟨-, p⟩ | ⟨p, -⟩
      · exact Or.inr (Or.inr (Or.inr (Or.inr (Or.inl ⟨rfl, p⟩))))
      · exact absurd h3 p
    · rcases s4 with ⟨-, p⟩ | ⟨p, -⟩
      · exact Or.inr (Or.inr (Or.inr (Or.inr (Or.inr (Or.inl ⟨rfl, p⟩)))))
      · exact absurd h3 p
    · rcases s5 with ⟨-, p⟩ | ⟨p, -⟩
      · exact Or.inr (Or.inr (Or.inr (Or.inr (Or.inr (Or.inr (⟨rfl, p⟩))))))
      · exact absurd h3 p
theorem kd_1 {f e k : Int} {w : Int64} (hl : ∀ j : Int, f ≤ j → j < e → lt_ (tq t j)) (hfe : f < e) (hw : Wd t f e w) (h : Kd t f e 6 13 k) : (k = -1 ∧ w ≠ 1668047216 ∧ w ≠ 1818586724 ∧ w ≠ 491328135545 ∧ w ≠ 1752527720 ∧ w ≠ 495874699885 ∧ w ≠ 111524789056101 ∧ w ≠ 474214787188) ∨ (k = 6 ∧ w = 1668047216) ∨ (k = 7 ∧ w = 1818586724) ∨ (k = 8 ∧ w = 491328135545) ∨ (k = 9 ∧ w = 1752527720) ∨ (k = 10 ∧ w = 495874699885) ∨ (k = 11 ∧ w = 111524789056101) ∨ (k = 12 ∧ w = 474214787188) := by
  have s6 := spw_6 hl hfe hw
  have s7 := spw_7 hl hfe hw
  have s8 := spw_8 hl hfe hw
  have s9 := spw_9 hl hfe hw
  have s10 := spw_10 hl hfe hw
  have s11 := spw_11 hl hfe hw
  have s12 := spw_12 hl hfe hw
  rcases h with ⟨h1, h2⟩ | ⟨h1, h2, h3⟩
  · refine Or.inl ⟨h1, ?_, ?_, ?_, ?_, ?_, ?_, ?_⟩
    · rcases s6 with ⟨p, -⟩ | ⟨-, p⟩
      · exact absurd p (h2 6 (by decide) (by decide))
      · exact p
    · rcases s7 with ⟨p, -⟩ | ⟨-, p⟩
      · exact absurd p (h2 7 (by decide) (by decide))
      · exact p
    · rcases s8 with ⟨p, -⟩ | ⟨-, p⟩
      · exact absurd p (h2 8 (by decide) (by decide))
      · exact p
    · rcases s9 with ⟨p, -⟩ | ⟨-, p⟩
      · exact absurd p (h2 9 (by decide) (by decide))
      · exact p
    · rcases s10 with ⟨p, -⟩ | ⟨-, p⟩
      · exact absurd p (h2 10 (by decide) (by decide))
      · exact p
    · rcases s11 with ⟨p, -⟩ | ⟨-, p⟩
      · exact absurd p (h2 11 (by decide) (by decide))
      · exact p
    · rcases s12 with ⟨p, -⟩ | ⟨-, p⟩
      · exact absurd p (h2 12 (by decide) (by decide))
      · exact p
  · rcases (by omega : k = 6 ∨ k = 7 ∨ k = 8 ∨ k = 9 ∨ k = 10 ∨ k = 11 ∨ k = 12) with rfl | rfl | rfl | rfl | rfl | rfl | rfl
    · rcases s6 with ⟨-, p⟩ | ⟨p, -⟩
      · exact Or.inr (Or.inl ⟨rfl, p⟩)
      · exact absurd h3 p
    · rcases s7 with ⟨-, p⟩ | ⟨p, -⟩
      · exact Or.inr (Or.inr (Or.inl ⟨rfl, p⟩))
      · exact absurd h3 p
    · rcases s8 with ⟨-, p⟩ | ⟨p, -⟩
      · exact Or.inr (Or.inr (Or.inr (Or.inl ⟨rfl, p⟩)))
      · exact absurd h3 p
    · rcases s9 with ⟨-, p⟩ | ⟨p, -⟩
      · exact Or.inr (Or.inr (Or.inr (Or.inr (Or.inl ⟨rfl, p⟩))))
      · exact absurd h3 p
    · rcases s10 with ⟨-, p⟩ | ⟨p, -⟩
      · exact Or.inr (Or.inr (Or.inr (Or.inr (Or.inr (Or.inl ⟨rfl, p⟩)))))
      · exact absurd h3 p
    · rcases s11 with ⟨-, p⟩ | ⟨p, -⟩
      · exact Or.inr (Or.inr (Or.inr (Or.inr (Or.inr (Or.inr (Or.inl ⟨rfl, p⟩))))))
      · exact absurd h3 p
    · rcases s12 with ⟨-, p⟩ | ⟨p, -⟩
      · exact Or.inr (Or.inr (Or.inr (Or.inr (Or.inr (Or.inr (Or.inr (⟨rfl, p⟩)))))))
      · exact absurd h3 p
theorem kd_2 {f e k : Int} {w : Int64} (hl : ∀ j : Int, f ≤ j → j < e → lt_ (tq t j)) (hfe : f < e) (hw : Wd t f e w) (h : Kd t f e 13 14 k) : (k = -1 ∧ w ≠ 448377483876) ∨ (k = 13 ∧ w = 448377483876) := by
  have s13 := spw_13 hl hfe hw
  rcases h with ⟨h1, h2⟩ | ⟨h1, h2, h3⟩
  · refine Or.inl ⟨h1, ?_⟩
    · rcases s13 with ⟨p, -⟩ | ⟨-, p⟩
      · exact absurd p (h2 13 (by decide) (by decide))
      · exact p
  · rcases (by omega : k = 13) with rfl
    · rcases s13 with ⟨-, p⟩ | ⟨p, -⟩
      · exact Or.inr (⟨rfl, p⟩)
      · exact absurd h3 p
theorem tl_fail {at_ lf lp vr rc wa bg so r rc' bg' so' vr' wa' lf' lp' : Int32} {w wo wo' : Int64} {s td rd td' rd' : Nat → Int32} (hw : w ≠ 1885432941 ∧ w ≠ 418280402802 ∧ w ≠ 129138752120178 ∧ w ≠ 1918989413 ∧ w ≠ 426953241460 ∧ w ≠ 108230800994167) (h : R_j_theatreLine w td lf lp at_ n s vr rc rd wa bg so wo r rc' bg' so' vr' wo' wa' lf' lp' td' rd') : r = 0 ∧ wa' = bg := by
  obtain ⟨w0, w1, w2, w3, w4, w5⟩ := hw
  obtain ⟨z1, f1, h⟩ := h
  rcases h with ⟨c1, z3, f3, h⟩ | ⟨c1, -⟩
  · rcases h with ⟨c2, z4, f4, h⟩ | ⟨c2, -⟩
    · rcases h with ⟨c3, z5, f5, h⟩ | ⟨c3, -⟩
      · rcases h with ⟨c4, -⟩ | ⟨c4, z6, f6, h⟩
        · rcases lc_0 f5 with ⟨-, p⟩ | ⟨p, -⟩
          · exact absurd p w0
          · exact absurd c4 p
        · rcases h with ⟨c5, -⟩ | ⟨c5, z7, f7, h⟩
          · rcases lc_0 f6 with ⟨-, p⟩ | ⟨p, -⟩
            · exact absurd p w1
            · exact absurd c5 p
          · rcases h with ⟨c6, -⟩ | ⟨c6, -, e0, e1, e2, e3, e4, e5, e6, e7, e8, e9, e10⟩
            · rcases lc_0 f7 with ⟨-, p⟩ | ⟨p, -⟩
              · exact absurd p w2
              · exact absurd c6 p
            · exact ⟨e0, e6⟩
      · rcases lc_0 f4 with ⟨-, p⟩ | ⟨p, -⟩
        · exact absurd p w5
        · exact absurd c3 p
    · rcases lc_0 f3 with ⟨-, p⟩ | ⟨p, -⟩
      · exact absurd p w4
      · exact absurd c2 p
  · rcases lc_0 f1 with ⟨-, p⟩ | ⟨p, -⟩
    · exact absurd p w3
    · exact absurd c1 p
theorem tl_0 {at_ lf lp vr rc wa bg so r rc' bg' so' vr' wa' lf' lp' : Int32} {wo wo' : Int64} {s td rd td' rd' : Nat → Int32} (h : R_j_theatreLine 1885432941 td lf lp at_ n s vr rc rd wa bg so wo r rc' bg' so' vr' wo' wa' lf' lp' td' rd') : ∃ z : Int32, R_j_theatreLine_s0 z td lf lp at_ n s vr rc rd wa r rd' rc' bg' so' vr' wo' wa' lf' lp' td' := by
  obtain ⟨z1, f1, h⟩ := h
  rcases h with ⟨c, z3, f3, h⟩ | h
  · skip
    rcases h with ⟨c, z4, f4, h⟩ | h
    · skip
      rcases h with ⟨c, z5, f5, h⟩ | h
      · skip
        rcases h with h | ⟨c, z6, f6, h⟩
        · exact ⟨_, h⟩
        · exact absurd (by rw [f5]; decide) c
      · obtain ⟨c, -⟩ := h
        exact absurd c (by rw [f4]; decide)
    · obtain ⟨c, -⟩ := h
      exact absurd c (by rw [f3]; decide)
  · obtain ⟨c, -⟩ := h
    exact absurd c (by rw [f1]; decide)
theorem tl_1 {at_ lf lp vr rc wa bg so r rc' bg' so' vr' wa' lf' lp' : Int32} {wo wo' : Int64} {s td rd td' rd' : Nat → Int32} (h : R_j_theatreLine 418280402802 td lf lp at_ n s vr rc rd wa bg so wo r rc' bg' so' vr' wo' wa' lf' lp' td' rd') : ∃ z : Int32, R_j_theatreLine_s1 z td lf lp at_ n s vr rc rd wa r rd' rc' bg' so' vr' wo' wa' lf' lp' td' := by
  obtain ⟨z1, f1, h⟩ := h
  rcases h with ⟨c, z3, f3, h⟩ | h
  · skip
    rcases h with ⟨c, z4, f4, h⟩ | h
    · skip
      rcases h with ⟨c, z5, f5, h⟩ | h
      · skip
        rcases h with h | ⟨c, z6, f6, h⟩
        · obtain ⟨c, -⟩ := h
          exact absurd c (by rw [f5]; decide)
        · skip
          rcases h with h | ⟨c, z7, f7, h⟩
          · exact ⟨_, h⟩
          · exact absurd (by rw [f6]; decide) c
      · obtain ⟨c, -⟩ := h
        exact absurd c (by rw [f4]; decide)
    · obtain ⟨c, -⟩ := h
      exact absurd c (by rw [f3]; decide)
  · obtain ⟨c, -⟩ := h
    exact absurd c (by rw [f1]; decide)
theorem tl_2 {at_ lf lp vr rc wa bg so r rc' bg' so' vr' wa' lf' lp' : Int32} {wo wo' : Int64} {s td rd td' rd' : Nat → Int32} (h : R_j_theatreLine 129138752120178 td lf lp at_ n s vr rc rd wa bg so wo r rc' bg' so' vr' wo' wa' lf' lp' td' rd') : ∃ z : Int32, R_j_theatreLine_s3 z td lf lp at_ n s vr rc rd wa r rd' rc' bg' so' vr' wo' wa' lf' lp' td' := by
  obtain ⟨z1, f1, h⟩ := h
  rcases h with ⟨c, z3, f3, h⟩ | h
  · skip
    rcases h with ⟨c, z4, f4, h⟩ | h
    · skip
      rcases h with ⟨c, z5, f5, h⟩ | h
      · skip
        rcases h with h | ⟨c, z6, f6, h⟩
        · obtain ⟨c, -⟩ := h
          exact absurd c (by rw [f5]; decide)
        · skip
          rcases h with h | ⟨c, z7, f7, h⟩
          · obtain ⟨c, -⟩ := h
            exact absurd c (by rw [f6]; decide)
          · skip
            rcases h with h | ⟨c, h⟩
            · exact ⟨_, h⟩
            · exact absurd (by rw [f7]; decide) c
      · obtain ⟨c, -⟩ := h
        exact absurd c (by rw [f4]; decide)
    · obtain ⟨c, -⟩ := h
      exact absurd c (by rw [f3]; decide)
  · obtain ⟨c, -⟩ := h
    exact absurd c (by rw [f1]; decide)
theorem tl_3 {at_ lf lp vr rc wa bg so r rc' bg' so' vr' wa' lf' lp' : Int32} {wo wo' : Int64} {s td rd td' rd' : Nat → Int32} (h : R_j_theatreLine 1918989413 td lf lp at_ n s vr rc rd wa bg so wo r rc' bg' so' vr' wo' wa' lf' lp' td' rd') : ∃ z : Int32, R_j_theatreLine_s7 z n s vr rc rd wa lf lp td r rd' rc' bg' so' vr' wo' wa' lf' lp' td' := by
  obtain ⟨z1, f1, h⟩ := h
  rcases h with ⟨c, z3, f3, h⟩ | h
  · exact absurd (by rw [f1]; decide) c
  · exact ⟨_, h⟩
theorem tl_4 {at_ lf lp vr rc wa bg so r rc' bg' so' vr' wa' lf' lp' : Int32} {wo wo' : Int64} {s td rd td' rd' : Nat → Int32} (h : R_j_theatreLine 426953241460 td lf lp at_ n s vr rc rd wa bg so wo r rc' bg' so' vr' wo' wa' lf' lp' td' rd') : ∃ z : Int32, R_j_theatreLine_s6 z n s vr rc rd wa lf lp td r rd' rc' bg' so' vr' wo' wa' lf' lp' td' := by
  obtain ⟨z1, f1, h⟩ := h
  rcases h with ⟨c, z3, f3, h⟩ | h
  · skip
    rcases h with ⟨c, z4, f4, h⟩ | h
    · exact absurd (by rw [f3]; decide) c
    · exact ⟨_, h⟩
  · obtain ⟨c, -⟩ := h
    exact absurd c (by rw [f1]; decide)
theorem tl_5 {at_ lf lp vr rc wa bg so r rc' bg' so' vr' wa' lf' lp' : Int32} {wo wo' : Int64} {s td rd td' rd' : Nat → Int32} (h : R_j_theatreLine 108230800994167 td lf lp at_ n s vr rc rd wa bg so wo r rc' bg' so' vr' wo' wa' lf' lp' td' rd') : ∃ z : Int32, R_j_theatreLine_s4 z n s vr rc rd wa lf lp td r rd' rc' bg' so' vr' wo' wa' lf' lp' td' := by
  obtain ⟨z1, f1, h⟩ := h
  rcases h with ⟨c, z3, f3, h⟩ | h
  · skip
    rcases h with ⟨c, z4, f4, h⟩ | h
    · skip
      rcases h with ⟨c, z5, f5, h⟩ | h
      · exact absurd (by rw [f4]; decide) c
      · exact ⟨_, h⟩
    · obtain ⟨c, -⟩ := h
      exact absurd c (by rw [f3]; decide)
  · obtain ⟨c, -⟩ := h
    exact absurd c (by rw [f1]; decide)
theorem bl_fail {at_ lf lp vr rc wa bg so r rc' bg' so' vr' wa' lf' lp' : Int32} {w wo wo' : Int64} {s td rd td' rd' : Nat → Int32} (hw : w ≠ 1668047216 ∧ w ≠ 1818586724 ∧ w ≠ 491328135545 ∧ w ≠ 1752527720 ∧ w ≠ 495874699885 ∧ w ≠ 111524789056101 ∧ w ≠ 474214787188) (h : R_j_bookLine w td lf lp at_ n s vr rc rd wa bg so wo r rc' bg' so' vr' wo' wa' lf' lp' td' rd') : r = 0 ∧ wa' = bg := by
  obtain ⟨w0, w1, w2, w3, w4, w5, w6⟩ := hw
  obtain ⟨x, hx, h⟩ := h
  have ex : x = -1 := by
    obtain ⟨z1, f1, hx⟩ := hx
    rcases lc_0 f1 with ⟨-, p⟩ | ⟨p, -⟩
    · exact absurd p w0
    · skip
      rcases hx with ⟨c, z2, f2, hx⟩ | ⟨c, -⟩
      · skip
        rcases lc_0 f2 with ⟨-, p⟩ | ⟨p, -⟩
        · exact absurd p w1
        · skip
          rcases hx with ⟨c, z3, f3, hx⟩ | ⟨c, -⟩
          · skip
            rcases lc_0 f3 with ⟨-, p⟩ | ⟨p, -⟩
            · exact absurd p w2
            · skip
              rcases hx with ⟨c, z4, f4, hx⟩ | ⟨c, -⟩
              · skip
                rcases lc_0 f4 with ⟨-, p⟩ | ⟨p, -⟩
                · exact absurd p w3
                · skip
                  rcases hx with ⟨c, z5, f5, hx⟩ | ⟨c, -⟩
                  · skip
                    rcases lc_0 f5 with ⟨-, p⟩ | ⟨p, -⟩
                    · exact absurd p w4
                    · skip
                      rcases hx with ⟨c, z6, f6, hx⟩ | ⟨c, -⟩
                      · skip
                        rcases lc_0 f6 with ⟨-, p⟩ | ⟨p, -⟩
                        · exact absurd p w5
                        · skip
                          rcases hx with ⟨c, z7, f7, hx⟩ | ⟨c, -⟩
                          · skip
                            rcases lc_0 f7 with ⟨-, p⟩ | ⟨p, -⟩
                            · exact absurd p w6
                            · skip
                              rcases hx with ⟨c, hx⟩ | ⟨c, -⟩
                              · skip
                                exact hx
                              · exact absurd c p
                          · exact absurd c p
                      · exact absurd c p
                  · exact absurd c p
              · exact absurd c p
          · exact absurd c p
      · exact absurd c p
  rcases h with ⟨c, -⟩ | ⟨c, -, e0, e1, e2, e3, e4, e5, e6, e7, e8, e9, e10⟩
  · exact absurd (by rw [ex]; decide) c
  · exact ⟨e0, e6⟩
theorem bl_6 {at_ lf lp vr rc wa bg so r rc' bg' so' vr' wa' lf' lp' : Int32} {wo wo' : Int64} {s td rd td' rd' : Nat → Int32} (h : R_j_bookLine 1668047216 td lf lp at_ n s vr rc rd wa bg so wo r rc' bg' so' vr' wo' wa' lf' lp' td' rd') : R_j_bookLine_s0 (0) td lf lp at_ n s vr rc rd wa r rd' rc' bg' so' vr' wo' wa' lf' lp' td' := by
  obtain ⟨x, hx, h⟩ := h
  have ex : x = 0 := by
    obtain ⟨z1, f1, hx⟩ := hx
    rcases hx with ⟨c, z2, f2, hx⟩ | ⟨c, hx⟩
    · exact absurd (by rw [f1]; decide) c
    · exact hx
  subst ex
  rcases h with h | ⟨c, -⟩
  · exact h
  · exact absurd c (by decide)
theorem bl_7 {at_ lf lp vr rc wa bg so r rc' bg' so' vr' wa' lf' lp' : Int32} {wo wo' : Int64} {s td rd td' rd' : Nat → Int32} (h : R_j_bookLine 1818586724 td lf lp at_ n s vr rc rd wa bg so wo r rc' bg' so' vr' wo' wa' lf' lp' td' rd') : R_j_bookLine_s0 (1) td lf lp at_ n s vr rc rd wa r rd' rc' bg' so' vr' wo' wa' lf' lp' td' := by
  obtain ⟨x, hx, h⟩ := h
  have ex : x = 1 := by
    obtain ⟨z1, f1, hx⟩ := hx
    rcases hx with ⟨c, z2, f2, hx⟩ | ⟨c, hx⟩
    · skip
      rcases hx with ⟨c, z3, f3, hx⟩ | ⟨c, hx⟩
      · exact absurd (by rw [f2]; decide) c
      · exact hx
    · exact absurd c (by rw [f1]; decide)
  subst ex
  rcases h with h | ⟨c, -⟩
  · exact h
  · exact absurd c (by decide)
theorem bl_8 {at_ lf lp vr rc wa bg so r rc' bg' so' vr' wa' lf' lp' : Int32} {wo wo' : Int64} {s td rd td' rd' : Nat → Int32} (h : R_j_bookLine 491328135545 td lf lp at_ n s vr rc rd wa bg so wo r rc' bg' so' vr' wo' wa' lf' lp' td' rd') : R_j_bookLine_s0 (2) td lf lp at_ n s vr rc rd wa r rd' rc' bg' so' vr' wo' wa' lf' lp' td' := by
  obtain ⟨x, hx, h⟩ := h
  have ex : x = 2 := by
    obtain ⟨z1, f1, hx⟩ := hx
    rcases hx with ⟨c, z2, f2, hx⟩ | ⟨c, hx⟩
    · skip
      rcases hx with ⟨c, z3, f3, hx⟩ | ⟨c, hx⟩
      · skip
        rcases hx with ⟨c, z4, f4, hx⟩ | ⟨c, hx⟩
        · exact absurd (by rw [f3]; decide) c
        · exact hx
      · exact absurd c (by rw [f2]; decide)
    · exact absurd c (by rw [f1]; decide)
  subst ex
  rcases h with h | ⟨c, -⟩
  · exact h
  · exact absurd c (by decide)
theorem bl_9 {at_ lf lp vr rc wa bg so r rc' bg' so' vr' wa' lf' lp' : Int32} {wo wo' : Int64} {s td rd td' rd' : Nat → Int32} (h : R_j_bookLine 1752527720 td lf lp at_ n s vr rc rd wa bg so wo r rc' bg' so' vr' wo' wa' lf' lp' td' rd') : R_j_bookLine_s0 (3) td lf lp at_ n s vr rc rd wa r rd' rc' bg' so' vr' wo' wa' lf' lp' td' := by
  obtain ⟨x, hx, h⟩ := h
  have ex : x = 3 := by
    obtain ⟨z1, f1, hx⟩ := hx
    rcases hx with ⟨c, z2, f2, hx⟩ | ⟨c, hx⟩
    · skip
      rcases hx with ⟨c, z3, f3, hx⟩ | ⟨c, hx⟩
      · skip
        rcases hx with ⟨c, z4, f4, hx⟩ | ⟨c, hx⟩
        · skip
          rcases hx with ⟨c, z5, f5, hx⟩ | ⟨c, hx⟩
          · exact absurd (by rw [f4]; decide) c
          · exact hx
        · exact absurd c (by rw [f3]; decide)
      · exact absurd c (by rw [f2]; decide)
    · exact absurd c (by rw [f1]; decide)
  subst ex
  rcases h with h | ⟨c, -⟩
  · exact h
  · exact absurd c (by decide)
theorem bl_10 {at_ lf lp vr rc wa bg so r rc' bg' so' vr' wa' lf' lp' : Int32} {wo wo' : Int64} {s td rd td' rd' : Nat → Int32} (h : R_j_bookLine 495874699885 td lf lp at_ n s vr rc rd wa bg so wo r rc' bg' so' vr' wo' wa' lf' lp' td' rd') : R_j_bookLine_s0 (4) td lf lp at_ n s vr rc rd wa r rd' rc' bg' so' vr' wo' wa' lf' lp' td' := by
  obtain ⟨x, hx, h⟩ := h
  have ex : x = 4 := by
    obtain ⟨z1, f1, hx⟩ := hx
    rcases hx with ⟨c, z2, f2, hx⟩ | ⟨c, hx⟩
    · skip
      rcases hx with ⟨c, z3, f3, hx⟩ | ⟨c, hx⟩
      · skip
        rcases hx with ⟨c, z4, f4, hx⟩ | ⟨c, hx⟩
        · skip
          rcases hx with ⟨c, z5, f5, hx⟩ | ⟨c, hx⟩
          · skip
            rcases hx with ⟨c, z6, f6, hx⟩ | ⟨c, hx⟩
            · exact absurd (by rw [f5]; decide) c
            · exact hx
          · exact absurd c (by rw [f4]; decide)
        · exact absurd c (by rw [f3]; decide)
      · exact absurd c (by rw [f2]; decide)
    · exact absurd c (by rw [f1]; decide)
  subst ex
  rcases h with h | ⟨c, -⟩
  · exact h
  · exact absurd c (by decide)
theorem bl_11 {at_ lf lp vr rc wa bg so r rc' bg' so' vr' wa' lf' lp' : Int32} {wo wo' : Int64} {s td rd td' rd' : Nat → Int32} (h : R_j_bookLine 111524789056101 td lf lp at_ n s vr rc rd wa bg so wo r rc' bg' so' vr' wo' wa' lf' lp' td' rd') : R_j_bookLine_s0 (5) td lf lp at_ n s vr rc rd wa r rd' rc' bg' so' vr' wo' wa' lf' lp' td' := by
  obtain ⟨x, hx, h⟩ := h
  have ex : x = 5 := by
    obtain ⟨z1, f1, hx⟩ := hx
    rcases hx with ⟨c, z2, f2, hx⟩ | ⟨c, hx⟩
    · skip
      rcases hx with ⟨c, z3, f3, hx⟩ | ⟨c, hx⟩
      · skip
        rcases hx with ⟨c, z4, f4, hx⟩ | ⟨c, hx⟩
        · skip
          rcases hx with ⟨c, z5, f5, hx⟩ | ⟨c, hx⟩
          · skip
            rcases hx with ⟨c, z6, f6, hx⟩ | ⟨c, hx⟩
            · skip
              rcases hx with ⟨c, z7, f7, hx⟩ | ⟨c, hx⟩
              · exact absurd (by rw [f6]; decide) c
              · exact hx
            · exact absurd c (by rw [f5]; decide)
          · exact absurd c (by rw [f4]; decide)
        · exact absurd c (by rw [f3]; decide)
      · exact absurd c (by rw [f2]; decide)
    · exact absurd c (by rw [f1]; decide)
  subst ex
  rcases h with h | ⟨c, -⟩
  · exact h
  · exact absurd c (by decide)
theorem bl_12 {at_ lf lp vr rc wa bg so r rc' bg' so' vr' wa' lf' lp' : Int32} {wo wo' : Int64} {s td rd td' rd' : Nat → Int32} (h : R_j_bookLine 474214787188 td lf lp at_ n s vr rc rd wa bg so wo r rc' bg' so' vr' wo' wa' lf' lp' td' rd') : R_j_bookLine_s0 (6) td lf lp at_ n s vr rc rd wa r rd' rc' bg' so' vr' wo' wa' lf' lp' td' := by
  obtain ⟨x, hx, h⟩ := h
  have ex : x = 6 := by
    obtain ⟨z1, f1, hx⟩ := hx
    rcases hx with ⟨c, z2, f2, hx⟩ | ⟨c, hx⟩
    · skip
      rcases hx with ⟨c, z3, f3, hx⟩ | ⟨c, hx⟩
      · skip
        rcases hx with ⟨c, z4, f4, hx⟩ | ⟨c, hx⟩
        · skip
          rcases hx with ⟨c, z5, f5, hx⟩ | ⟨c, hx⟩
          · skip
            rcases hx with ⟨c, z6, f6, hx⟩ | ⟨c, hx⟩
            · skip
              rcases hx with ⟨c, z7, f7, hx⟩ | ⟨c, hx⟩
              · skip
                rcases hx with ⟨c, hx⟩ | ⟨c, hx⟩
                · exact absurd (by rw [f7]; decide) c
                · exact hx
              · exact absurd c (by rw [f6]; decide)
            · exact absurd c (by rw [f5]; decide)
          · exact absurd c (by rw [f4]; decide)
        · exact absurd c (by rw [f3]; decide)
      · exact absurd c (by rw [f2]; decide)
    · exact absurd c (by rw [f1]; decide)
  subst ex
  rcases h with h | ⟨c, -⟩
  · exact h
  · exact absurd c (by decide)
theorem dl_fail {at_ lf lp vr rc wa bg so r rc' bg' so' vr' wa' lf' lp' : Int32} {w wo wo' : Int64} {s td rd td' rd' : Nat → Int32} (hw : w ≠ 448377483876) (h : R_j_darkLine w td lf lp at_ n s vr rc rd wa bg so wo r rc' bg' so' vr' wo' wa' lf' lp' td' rd') : r = 0 ∧ wa' = bg := by
  obtain ⟨z1, f1, h⟩ := h
  rcases h with ⟨c, -⟩ | ⟨c, -, e0, e1, e2, e3, e4, e5, e6, e7, e8, e9, e10⟩
  · rcases lc_0 f1 with ⟨-, p⟩ | ⟨p, -⟩
    · exact absurd p hw
    · exact absurd c p
  · exact ⟨e0, e6⟩
theorem dl_13 {at_ lf lp vr rc wa bg so r rc' bg' so' vr' wa' lf' lp' : Int32} {wo wo' : Int64} {s td rd td' rd' : Nat → Int32} (h : R_j_darkLine 448377483876 td lf lp at_ n s vr rc rd wa bg so wo r rc' bg' so' vr' wo' wa' lf' lp' td' rd') : ∃ z : Int32, R_j_darkLine_s0 z td lf lp at_ n s vr rc rd wa r rd' rc' bg' so' vr' wo' wa' lf' lp' td' := by
  obtain ⟨z1, f1, h⟩ := h
  rcases h with h | ⟨c, -⟩
  · exact ⟨_, h⟩
  · exact absurd (by rw [f1]; decide) c
theorem line_0 {p tk fr to va fa pl lf lp vr rc wa bg so r rc' bg' so' vr' wa' lf' lp' : Int32} {w wo wo' : Int64} {rn s td rd td' rd' : Nat → Int32} (hn : 0 ≤ n.toInt ∧ n.toInt ≤ 600) (hby : By s) (hag : Ag_ t s n.toInt) (hp : 0 ≤ p.toInt) (hT : Tk t n.toInt p.toInt tk.toInt fr.toInt to.toInt va.toInt) (htk : tk.toInt ≠ 0) (hC : CT t n.toInt p.toInt rc bg so vr wo) (hF : FR fa pl lf lp p.toInt) (hD : RT td pa ac us ra ch bo cl ha hu sa ak fl) (hw : (so.toInt = 2 ∧ w = wo) ∨ (so.toInt ≠ 2 ∧ w = 0)) (hx : R_k_readLine tk fr to va pa ac us ra ch bo cl ha hu sa ak fl de pr mi hv rn 0 t n fa pl u0 u1 u2 u3 u4 u5 u6 u7 u8 u9 u10 u11 u12 u13 u14 u15 u16 u17 u18 u19 u20 u21 u22 u23) (hr : R_j_theatreLine w td lf lp bg n s vr rc rd wa bg so wo r rc' bg' so' vr' wo' wa' lf' lp' td' rd') : (u0 = 0 ∧ u1 = 1 ∧ r = 0 ∧ wa' = u2) ∨ ∃ k : Int32, (r = 1 ∧ wa' = wa ∧ ∃ (fa2 pl2 tk2 fr2 to2 va2 i2 : Int32) (nm2 : Nat → Int32) (N : Nat) (m : Int), (nu_.getD (Int32.toNatClampNeg k) 0).toInt = m ∧ m ≤ i2.toInt ∧ fx (T_k_readLine_56 k n t pa cl ha ac us ra ch bo hu sa ak fl de pr mi hv u0 u1 u2 u3 u4 u5 u6 u7 u8 u9 u10 u11 u12 u13 u14 u15 u16 u17 u18 u19 u20 u21 u22 u23) (N + 1) (i2, fa2, pl2, tk2, fr2, to2, va2, nm2) ∧ to.toInt ≤ to2.toInt ∧ to2.toInt ≤ n.toInt ∧ CT t n.toInt to2.toInt rc' bg' so' vr' wo' ∧ FR fa2 pl2 lf' lp' to2.toInt ∧ (R_k_keepLine k nm2 pa cl ha ac us ra ch bo hu sa ak fl de pr mi hv u7 u8 u9 u10 u11 u12 u13 u14 u15 u16 u17 u18 u19 u20 u21 u22 → RT td' u7 u8 u9 u10 u11 u12 u13 u14 u15 u16 u17 u18)) := by
  revert hx hr
  obtain ⟨kk, hT', hsc, hwd⟩ := hC
  obtain ⟨ek, ef, ee, -⟩ := Tk_u hT hT'
  have go := Tk_go hT
  have hbg : bg = fr := mi_eq (by omega)
  have hrc : rc.toInt = to.toInt := by omega
  unfold Sc at hsc
  have hlt : fr.toInt < to.toInt := by omega
  have F1 : tk.toInt ≠ 1 → so.toInt ≠ 2 := by omega
  have F2 : tk.toInt = 1 → so.toInt = 2 := by omega
  have F3 : tk.toInt = 1 → kk = 1 := by omega
  have F4 : 0 ≤ fr.toInt := by omega
  have F5 : fr.toInt ≤ to.toInt := by omega
  have F6 : to.toInt ≤ 600 := by omega
  have F7 : p.toInt ≤ fr.toInt := by omega
  have F8 : to.toInt ≤ n.toInt := by omega
  have F9 : tk.toInt = 1 → run_ lt_ t n.toInt fr.toInt to.toInt := by
    intro q
    obtain ⟨-, hT⟩ := hT
    rcases hT with ⟨-, c2, -⟩ | ⟨-, -, -, c4⟩ | ⟨-, -, -, c4⟩ | ⟨-, -, -, -, c5⟩
    · omega
    · exact c4
    · omega
    · omega
  clear go hsc ek ef ee
  intro hx hr
  rcases c_start hx with ⟨q, g0, g1, g2⟩ | ⟨q, k, hk, hx⟩
  · have hw0 : w = 0 := by
      rcases hw with ⟨p1, -⟩ | ⟨-, p1⟩
      · exact absurd p1 (F1 q)
      · exact p1
    subst hw0
    obtain ⟨f0, f1⟩ := tl_fail ⟨by decide, by decide, by decide, by decide, by decide, by decide⟩ hr
    exact Or.inl ⟨g0, g1, f0, by rw [f1, g2, hbg]⟩
  · have hw0 : w = wo := by
      rcases hw with ⟨-, p1⟩ | ⟨p1, -⟩
      · exact p1
      · exact absurd (F2 q) p1
    subst hw0
    have hl := F9 q
    have hW : Wd t fr.toInt to.toInt w := by rw [← hbg, ← hrc]; exact hwd (F3 q)
    have hkd := kd_0 hl.2.2.1 hlt hW (kind_sp (lo := 0) (hi := 6) (by decide) (by decide) (by decide) (by decide) (by decide) F4 F5 F6 hk)
    have hF1 : FR fa pl lf lp fr.toInt := FR_mono hF F7
    rcases hkd with ⟨e, hne⟩ | ⟨e, ew⟩ | ⟨e, ew⟩ | ⟨e, ew⟩ | ⟨e, ew⟩ | ⟨e, ew⟩ | ⟨e, ew⟩
    · rcases hx with ⟨-, g0, g1, g2⟩ | ⟨c, -⟩
      · obtain ⟨f0, f1⟩ := tl_fail hne hr
        exact Or.inl ⟨g0, g1, f0, by rw [f1, g2, hbg]⟩
      · exact absurd e c
    · have ek : k = 0 := mi_eq (by rw [e]; decide)
      subst ek
      subst ew
      rcases hx with ⟨c, -⟩ | ⟨-, fu, fa1, pl1, nm, hfu, hnote, hnm, h⟩
      · exact absurd c (by decide)
      · obtain ⟨z, hs⟩ := tl_0 hr
        rcases ln_0 hn hby hag ⟨F4, hlt, F8⟩ hrc hbg hF1 hD hfu hnote hnm h hs with g | g
        · exact Or.inl g
        · exact Or.inr ⟨0, g⟩
    · have ek : k = 1 := mi_eq (by rw [e]; decide)
      subst ek
      subst ew
      rcases hx with ⟨c, -⟩ | ⟨-, fu, fa1, pl1, nm, hfu, hnote, hnm, h⟩
      · exact absurd c (by decide)
      · obtain ⟨z, hs⟩ := tl_1 hr
        rcases ln_1 hn hby hag ⟨F4, hlt, F8⟩ hrc hbg hF1 hD hfu hnote hnm h hs with g | g
        · exact Or.inl g
        · exact Or.inr ⟨1, g⟩
    · have ek : k = 2 := mi_eq (by rw [e]; decide)
      subst ek
      subst ew
      rcases hx with ⟨c, -⟩ | ⟨-, fu, fa1, pl1, nm, hfu, hnote, hnm, h⟩
      · exact absurd c (by decide)
      · obtain ⟨z, hs⟩ := tl_2 hr
        rcases ln_2 hn hby hag ⟨F4, hlt, F8⟩ hrc hbg hF1 hD hfu hnote hnm h hs with g | g
        · exact Or.inl g
        · exact Or.inr ⟨2, g⟩
    · have ek : k = 3 := mi_eq (by rw [e]; decide)
      subst ek
      subst ew
      rcases hx with ⟨c, -⟩ | ⟨-, fu, fa1, pl1, nm, hfu, hnote, hnm, h⟩
      · exact absurd c (by decide)
      · obtain ⟨z, hs⟩ := tl_3 hr
        rcases ln_3 hn hby hag ⟨F4, hlt, F8⟩ hrc hbg hF1 hD hfu hnote hnm h hs with g | g
        · exact Or.inl g
        · exact Or.inr ⟨3, g⟩
    · have ek : k = 4 := mi_eq (by rw [e]; decide)
      subst ek
      subst ew
      rcases hx with ⟨c, -⟩ | ⟨-, fu, fa1, pl1, nm, hfu, hnote, hnm, h⟩
      · exact absurd c (by decide)
      · obtain ⟨z, hs⟩ := tl_4 hr
        rcases ln_4 hn hby hag ⟨F4, hlt, F8⟩ hrc hbg hF1 hD hfu hnote hnm h hs with g | g
        · exact Or.inl g
        · exact Or.inr ⟨4, g⟩
    · have ek : k = 5 := mi_eq (by rw [e]; decide)
      subst ek
      subst ew
      rcases hx with ⟨c, -⟩ | ⟨-, fu, fa1, pl1, nm, hfu, hnote, hnm, h⟩
      · exact absurd c (by decide)
      · obtain ⟨z, hs⟩ := tl_5 hr
        rcases ln_5 hn hby hag ⟨F4, hlt, F8⟩ hrc hbg hF1 hD hfu hnote hnm h hs with g | g
        · exact Or.inl g
        · exact Or.inr ⟨5, g⟩
theorem line_1 {p tk fr to va fa pl lf lp vr rc wa bg so r rc' bg' so' vr' wa' lf' lp' : Int32} {w wo wo' : Int64} {rn s td rd td' rd' : Nat → Int32} (hn : 0 ≤ n.toInt ∧ n.toInt ≤ 600) (hby : By s) (hag : Ag_ t s n.toInt) (hp : 0 ≤ p.toInt) (hT : Tk t n.toInt p.toInt tk.toInt fr.toInt to.toInt va.toInt) (htk : tk.toInt ≠ 0) (hC : CT t n.toInt p.toInt rc bg so vr wo) (hF : FR fa pl lf lp p.toInt) (hD : RB td de pr) (hw : (so.toInt = 2 ∧ w = wo) ∨ (so.toInt ≠ 2 ∧ w = 0)) (hx : R_k_readLine tk fr to va pa ac us ra ch bo cl ha hu sa ak fl de pr mi hv rn 1 t n fa pl u0 u1 u2 u3 u4 u5 u6 u7 u8 u9 u10 u11 u12 u13 u14 u15 u16 u17 u18 u19 u20 u21 u22 u23) (hr : R_j_bookLine w td lf lp bg n s vr rc rd wa bg so wo r rc' bg' so' vr' wo' wa' lf' lp' td' rd') : (u0 = 0 ∧ u1 = 1 ∧ r = 0 ∧ wa' = u2) ∨ ∃ k : Int32, (r = 1 ∧ wa' = wa ∧ ∃ (fa2 pl2 tk2 fr2 to2 va2 i2 : Int32) (nm2 : Nat → Int32) (N : Nat) (m : Int), (nu_.getD (Int32.toNatClampNeg k) 0).toInt = m ∧ m ≤ i2.toInt ∧ fx (T_k_readLine_56 k n t pa cl ha ac us ra ch bo hu sa ak fl de pr mi hv u0 u1 u2 u3 u4 u5 u6 u7 u8 u9 u10 u11 u12 u13 u14 u15 u16 u17 u18 u19 u20 u21 u22 u23) (N + 1) (i2, fa2, pl2, tk2, fr2, to2, va2, nm2) ∧ to.toInt ≤ to2.toInt ∧ to2.toInt ≤ n.toInt ∧ CT t n.toInt to2.toInt rc' bg' so' vr' wo' ∧ FR fa2 pl2 lf' lp' to2.toInt ∧ (R_k_keepLine k nm2 pa cl ha ac us ra ch bo hu sa ak fl de pr mi hv u7 u8 u9 u10 u11 u12 u13 u14 u15 u16 u17 u18 u19 u20 u21 u22 → RB td' u19 u20)) := by
  revert hx hr
  obtain ⟨kk, hT', hsc, hwd⟩ := hC
  obtain ⟨ek, ef, ee, -⟩ := Tk_u hT hT'
  have go := Tk_go hT
  have hbg : bg = fr := mi_eq (by omega)
  have hrc : rc.toInt = to.toInt := by omega
  unfold Sc at hsc
  have hlt : fr.toInt < to.toInt := by omega
  have F1 : tk.toInt ≠ 1 → so.toInt ≠ 2 := by omega
  have F2 : tk.toInt = 1 → so.toInt = 2 := by omega
  have F3 : tk.toInt = 1 → kk = 1 := by omega
  have F4 : 0 ≤ fr.toInt := by omega
  have F5 : fr.toInt ≤ to.toInt := by omega
  have F6 : to.toInt ≤ 600 := by omega
  have F7 : p.toInt ≤ fr.toInt := by omega
  have F8 : to.toInt ≤ n.toInt := by omega
  have F9 : tk.toInt = 1 → run_ lt_ t n.toInt fr.toInt to.toInt := by
    intro q
    obtain ⟨-, hT⟩ := hT
    rcases hT with ⟨-, c2, -⟩ | ⟨-, -, -, c4⟩ | ⟨-, -, -, c4⟩ | ⟨-, -, -, -, c5⟩
    · omega
    · exact c4
    · omega
    · omega
  clear go hsc ek ef ee
  intro hx hr
  rcases c_start hx with ⟨q, g0, g1, g2⟩ | ⟨q, k, hk, hx⟩
  · have hw0 : w = 0 := by
      rcases hw with ⟨p1, -⟩ | ⟨-, p1⟩
      · exact absurd p1 (F1 q)
      · exact p1
    subst hw0
    obtain ⟨f0, f1⟩ := bl_fail ⟨by decide, by decide, by decide, by decide, by decide, by decide, by decide⟩ hr
    exact Or.inl ⟨g0, g1, f0, by rw [f1, g2, hbg]⟩
  · have hw0 : w = wo := by
      rcases hw with ⟨-, p1⟩ | ⟨p1, -⟩
      · exact p1
      · exact absurd (F2 q) p1
    subst hw0
    have hl := F9 q
    have hW : Wd t fr.toInt to.toInt w := by rw [← hbg, ← hrc]; exact hwd (F3 q)
    have hkd := kd_1 hl.2.2.1 hlt hW (kind_sp (lo := 6) (hi := 13) (by decide) (by decide) (by decide) (by decide) (by decide) F4 F5 F6 hk)
    have hF1 : FR fa pl lf lp fr.toInt := FR_mono hF F7
    rcases hkd with ⟨e, hne⟩ | ⟨e, ew⟩ | ⟨e, ew⟩ | ⟨e, ew⟩ | ⟨e, ew⟩ | ⟨e, ew⟩ | ⟨e, ew⟩ | ⟨e, ew⟩
    · rcases hx with ⟨-, g0, g1, g2⟩ | ⟨c, -⟩
      · obtain ⟨f0, f1⟩ := bl_fail hne hr
        exact Or.inl ⟨g0, g1, f0, by rw [f1, g2, hbg]⟩
      · exact absurd e c
    · have ek : k = 6 := mi_eq (by rw [e]; decide)
      subst ek
      subst ew
      rcases hx with ⟨c, -⟩ | ⟨-, fu, fa1, pl1, nm, hfu, hnote, hnm, h⟩
      · exact absurd c (by decide)
      · have hs := bl_6 hr
        rcases ln_6 (z := 0) hn hby hag ⟨F4, hlt, F8⟩ hrc hbg hF1 hD hfu hnote hnm h hs with g | g
        · exact Or.inl g
        · exact Or.inr ⟨6, g⟩
    · have ek : k = 7 := mi_eq (by rw [e]; decide)
      subst ek
      subst ew
      rcases hx with ⟨c, -⟩ | ⟨-, fu, fa1, pl1, nm, hfu, hnote, hnm, h⟩
      · exact absurd c (by decide)
      · have hs := bl_7 hr
        rcases ln_7 (z := 0) hn hby hag ⟨F4, hlt, F8⟩ hrc hbg hF1 hD hfu hnote hnm h hs with g | g
        · exact Or.inl g
        · exact Or.inr ⟨7, g⟩
    · have ek : k = 8 := mi_eq (by rw [e]; decide)
      subst ek
      subst ew
      rcases hx with ⟨c, -⟩ | ⟨-, fu, fa1, pl1, nm, hfu, hnote, hnm, h⟩
      · exact absurd c (by decide)
      · have hs := bl_8 hr
        rcases ln_8 (z := 0) hn hby hag ⟨F4, hlt, F8⟩ hrc hbg hF1 hD hfu hnote hnm h hs with g | g
        · exact Or.inl g
        · exact Or.inr ⟨8, g⟩
    · have ek : k = 9 := mi_eq (by rw [e]; decide)
      subst ek
      subst ew
      rcases hx with ⟨c, -⟩ | ⟨-, fu, fa1, pl1, nm, hfu, hnote, hnm, h⟩
      · exact absurd c (by decide)
      · have hs := bl_9 hr
        rcases ln_9 (z := 0) hn hby hag ⟨F4, hlt, F8⟩ hrc hbg hF1 hD hfu hnote hnm h hs with g | g
        · exact Or.inl g
        · exact Or.inr ⟨9, g⟩
    · have ek : k = 10 := mi_eq (by rw [e]; decide)
      subst ek
      subst ew
      rcases hx with ⟨c, -⟩ | ⟨-, fu, fa1, pl1, nm, hfu, hnote, hnm, h⟩
      · exact absurd c (by decide)
      · have hs := bl_10 hr
        rcases ln_10 (z := 0) hn hby hag ⟨F4, hlt, F8⟩ hrc hbg hF1 hD hfu hnote hnm h hs with g | g
        · exact Or.inl g
        · exact Or.inr ⟨10, g⟩
    · have ek : k = 11 := mi_eq (by rw [e]; decide)
      subst ek
      subst ew
      rcases hx with ⟨c, -⟩ | ⟨-, fu, fa1, pl1, nm, hfu, hnote, hnm, h⟩
      · exact absurd c (by decide)
      · have hs := bl_11 hr
        rcases ln_11 (z := 0) hn hby hag ⟨F4, hlt, F8⟩ hrc hbg hF1 hD hfu hnote hnm h hs with g | g
        · exact Or.inl g
        · exact Or.inr ⟨11, g⟩
    · have ek : k = 12 := mi_eq (by rw [e]; decide)
      subst ek
      subst ew
      rcases hx with ⟨c, -⟩ | ⟨-, fu, fa1, pl1, nm, hfu, hnote, hnm, h⟩
      · exact absurd c (by decide)
      · have hs := bl_12 hr
        rcases ln_12 (z := 0) hn hby hag ⟨F4, hlt, F8⟩ hrc hbg hF1 hD hfu hnote hnm h hs with g | g
        · exact Or.inl g
        · exact Or.inr ⟨12, g⟩
theorem line_2 {p tk fr to va fa pl lf lp vr rc wa bg so r rc' bg' so' vr' wa' lf' lp' : Int32} {w wo wo' : Int64} {rn s td rd td' rd' : Nat → Int32} (hn : 0 ≤ n.toInt ∧ n.toInt ≤ 600) (hby : By s) (hag : Ag_ t s n.toInt) (hp : 0 ≤ p.toInt) (hT : Tk t n.toInt p.toInt tk.toInt fr.toInt to.toInt va.toInt) (htk : tk.toInt ≠ 0) (hC : CT t n.toInt p.toInt rc bg so vr wo) (hF : FR fa pl lf lp p.toInt) (hD : RD td mi hv) (hw : (so.toInt = 2 ∧ w = wo) ∨ (so.toInt ≠ 2 ∧ w = 0)) (hx : R_k_readLine tk fr to va pa ac us ra ch bo cl ha hu sa ak fl de pr mi hv rn 2 t n fa pl u0 u1 u2 u3 u4 u5 u6 u7 u8 u9 u10 u11 u12 u13 u14 u15 u16 u17 u18 u19 u20 u21 u22 u23) (hr : R_j_darkLine w td lf lp bg n s vr rc rd wa bg so wo r rc' bg' so' vr' wo' wa' lf' lp' td' rd') : (u0 = 0 ∧ u1 = 1 ∧ r = 0 ∧ wa' = u2) ∨ ∃ k : Int32, (r = 1 ∧ wa' = wa ∧ ∃ (fa2 pl2 tk2 fr2 to2 va2 i2 : Int32) (nm2 : Nat → Int32) (N : Nat) (m : Int), (nu_.getD (Int32.toNatClampNeg k) 0).toInt = m ∧ m ≤ i2.toInt ∧ fx (T_k_readLine_56 k n t pa cl ha ac us ra ch bo hu sa ak fl de pr mi hv u0 u1 u2 u3 u4 u5 u6 u7 u8 u9 u10 u11 u12 u13 u14 u15 u16 u17 u18 u19 u20 u21 u22 u23) (N + 1) (i2, fa2, pl2, tk2, fr2, to2, va2, nm2) ∧ to.toInt ≤ to2.toInt ∧ to2.toInt ≤ n.toInt ∧ CT t n.toInt to2.toInt rc' bg' so' vr' wo' ∧ FR fa2 pl2 lf' lp' to2.toInt ∧ (R_k_keepLine k nm2 pa cl ha ac us ra ch bo hu sa ak fl de pr mi hv u7 u8 u9 u10 u11 u12 u13 u14 u15 u16 u17 u18 u19 u20 u21 u22 → RD td' u21 u22)) := by
  revert hx hr
  obtain ⟨kk, hT', hsc, hwd⟩ := hC
  obtain ⟨ek, ef, ee, -⟩ := Tk_u hT hT'
  have go := Tk_go hT
  have hbg : bg = fr := mi_eq (by omega)
  have hrc : rc.toInt = to.toInt := by omega
  unfold Sc at hsc
  have hlt : fr.toInt < to.toInt := by omega
  have F1 : tk.toInt ≠ 1 → so.toInt ≠ 2 := by omega
  have F2 : tk.toInt = 1 → so.toInt = 2 := by omega
  have F3 : tk.toInt = 1 → kk = 1 := by omega
  have F4 : 0 ≤ fr.toInt := by omega
  have F5 : fr.toInt ≤ to.toInt := by omega
  have F6 : to.toInt ≤ 600 := by omega
  have F7 : p.toInt ≤ fr.toInt := by omega
  have F8 : to.toInt ≤ n.toInt := by omega
  have F9 : tk.toInt = 1 → run_ lt_ t n.toInt fr.toInt to.toInt := by
    intro q
    obtain ⟨-, hT⟩ := hT
    rcases hT with ⟨-, c2, -⟩ | ⟨-, -, -, c4⟩ | ⟨-, -, -, c4⟩ | ⟨-, -, -, -, c5⟩
    · omega
    · exact c4
    · omega
    · omega
  clear go hsc ek ef ee
  intro hx hr
  rcases c_start hx with ⟨q, g0, g1, g2⟩ | ⟨q, k, hk, hx⟩
  · have hw0 : w = 0 := by
      rcases hw with ⟨p1, -⟩ | ⟨-, p1⟩
      · exact absurd p1 (F1 q)
      · exact p1
    subst hw0
    obtain ⟨f0, f1⟩ := dl_fail (by decide) hr
    exact Or.inl ⟨g0, g1, f0, by rw [f1, g2, hbg]⟩
  · have hw0 : w = wo := by
      rcases hw with ⟨-, p1⟩ | ⟨p1, -⟩
      · exact p1
      · exact absurd (F2 q) p1
    subst hw0
    have hl := F9 q
    have hW : Wd t fr.toInt to.toInt w := by rw [← hbg, ← hrc]; exact hwd (F3 q)
    have hkd := kd_2 hl.2.2.1 hlt hW (kind_sp (lo := 13) (hi := 14) (by decide) (by decide) (by decide) (by decide) (by decide) F4 F5 F6 hk)
    have hF1 : FR fa pl lf lp fr.toInt := FR_mono hF F7
    rcases hkd with ⟨e, hne⟩ | ⟨e, ew⟩
    · rcases hx with ⟨-, g0, g1, g2⟩ | ⟨c, -⟩
      · obtain ⟨f0, f1⟩ := dl_fail hne hr
        exact Or.inl ⟨g0, g1, f0, by rw [f1, g2, hbg]⟩
      · exact absurd e c
    · have ek : k = 13 := mi_eq (by rw [e]; decide)
      subst ek
      subst ew
      rcases hx with ⟨c, -⟩ | ⟨-, fu, fa1, pl1, nm, hfu, hnote, hnm, h⟩
      · exact absurd c (by decide)
      · obtain ⟨z, hs⟩ := dl_13 hr
        rcases ln_13 hn hby hag ⟨F4, hlt, F8⟩ hrc hbg hF1 hD hfu hnote hnm h hs with g | g
        · exact Or.inl g
        · exact Or.inr ⟨13, g⟩
end READ

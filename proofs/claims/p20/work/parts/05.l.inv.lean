/-! text() in step -/
def RefC (a b m : Int32) : Prop := (a.toInt < 0 ∨ 2 < a.toInt) ∨ (b.toInt = -1 ∧ 2 ≤ m.toInt) ∨ (b.toInt ≠ -1 ∧ (b.toInt < 0 ∨ m.toInt ≤ b.toInt))
def OkC (a b m num : Int32) : Prop := (0 ≤ a.toInt ∧ a.toInt ≤ 2) ∧ ((b.toInt = -1 ∧ m.toInt < 2 ∧ num = m) ∨ (b.toInt ≠ -1 ∧ 0 ≤ b.toInt ∧ b.toInt < m.toInt ∧ num = b))
theorem cx {a : Int32} {ktheatres : Int32} {kbooks : Int32} {kdarks : Int32} {b : Int32} {kftpalms : Int32} {kftactors : Int32} {kftusurers : Int32} {kftrate : Int32} {kftchest : Int32} {kftborrowers : Int32} {kft_claps : Nat → Int32} {kft_hands : Nat → Int32} {kft_hunger : Nat → Int32} {kft_saved : Nat → Int32} {kft_asks : Nat → Int32} {kft_floors : Nat → Int32} {kstpalms : Int32} {kstactors : Int32} {kstusurers : Int32} {kstrate : Int32} {kstchest : Int32} {kstborrowers : Int32} {kst_claps : Nat → Int32} {kst_hands : Nat → Int32} {kst_hunger : Nat → Int32} {kst_saved : Nat → Int32} {kst_asks : Nat → Int32} {kst_floors : Nat → Int32} {kfbdeeds : Int32} {kfb_parts : Nat → Int32} {ksbdeeds : Int32} {ksb_parts : Nat → Int32} {kfdmin : Int32} {kfd_halves : Nat → Int32} {ksdmin : Int32} {ksd_halves : Nat → Int32} {rfault : Int32} {rplace : Int32} {rtoken : Int32} {rfrom : Int32} {rto : Int32} {rvalue : Int32} {rtpalms : Int32} {rtactors : Int32} {rtusurers : Int32} {rtrate : Int32} {rtchest : Int32} {rtborrowers : Int32} {rt_claps : Nat → Int32} {rt_hands : Nat → Int32} {rt_hunger : Nat → Int32} {rt_saved : Nat → Int32} {rt_asks : Nat → Int32} {rt_floors : Nat → Int32} {rbdeeds : Int32} {rb_parts : Nat → Int32} {rdmin : Int32} {rd_halves : Nat → Int32} {r_n : Nat → Int32} {klength : Int32} {k_tape : Nat → Int32} {u0 : Int32} {u1 : Int32} {u2 : Int32} {u3 : Int32} {u4 : Int32} {u5 : Int32} {u6 : Int32} {u7 : Int32} {u8 : Int32} {u9 : Int32} {u10 : Int32} {u11 : Int32} {u12 : Nat → Int32} {u13 : Nat → Int32} {u14 : Nat → Int32} {u15 : Nat → Int32} {u16 : Nat → Int32} {u17 : Nat → Int32} {u18 : Int32} {u19 : Int32} {u20 : Int32} {u21 : Int32} {u22 : Int32} {u23 : Int32} {u24 : Nat → Int32} {u25 : Nat → Int32} {u26 : Nat → Int32} {u27 : Nat → Int32} {u28 : Nat → Int32} {u29 : Nat → Int32} {u30 : Int32} {u31 : Nat → Int32} {u32 : Int32} {u33 : Nat → Int32} {u34 : Int32} {u35 : Nat → Int32} {u36 : Int32} {u37 : Nat → Int32} {u38 : Int32} {u39 : Int32} {u40 : Int32} {u41 : Int32} {u42 : Int32} {u43 : Int32} {u44 : Int32} {u45 : Int32} {u46 : Int32} {u47 : Int32} {u48 : Int32} {u49 : Int32} {u50 : Nat → Int32} {u51 : Nat → Int32} {u52 : Nat → Int32} {u53 : Nat → Int32} {u54 : Nat → Int32} {u55 : Nat → Int32} {u56 : Int32} {u57 : Nat → Int32} {u58 : Int32} {u59 : Nat → Int32} {u60 : Nat → Int32} (hr : (0 ≤ ktheatres.toInt ∧ ktheatres.toInt ≤ 2) ∧ (0 ≤ kbooks.toInt ∧ kbooks.toInt ≤ 2) ∧ (0 ≤ kdarks.toInt ∧ kdarks.toInt ≤ 2)) (h : R_x_text a ktheatres kbooks kdarks b kftpalms kftactors kftusurers kftrate kftchest kftborrowers kft_claps kft_hands kft_hunger kft_saved kft_asks kft_floors kstpalms kstactors kstusurers kstrate kstchest kstborrowers kst_claps kst_hands kst_hunger kst_saved kst_asks kst_floors kfbdeeds kfb_parts ksbdeeds ksb_parts kfdmin kfd_halves ksdmin ksd_halves rfault rplace rtoken rfrom rto rvalue rtpalms rtactors rtusurers rtrate rtchest rtborrowers rt_claps rt_hands rt_hunger rt_saved rt_asks rt_floors rbdeeds rb_parts rdmin rd_halves r_n klength k_tape u0 u1 u2 u3 u4 u5 u6 u7 u8 u9 u10 u11 u12 u13 u14 u15 u16 u17 u18 u19 u20 u21 u22 u23 u24 u25 u26 u27 u28 u29 u30 u31 u32 u33 u34 u35 u36 u37 u38 u39 u40 u41 u42 u43 u44 u45 u46 u47 u48 u49 u50 u51 u52 u53 u54 u55 u56 u57 u58 u59 u60) : ∃ m : Int32, ((a.toInt = 0 → m = ktheatres) ∧ (a.toInt = 1 → m = kbooks) ∧ (a.toInt = 2 → m = kdarks)) ∧ ((RefC a b m ∧ u0 = -2 ∧ u1 = 0 ∧ u2 = -1 ∧ u3 = ktheatres ∧ u4 = kbooks ∧ u5 = kdarks ∧ u6 = kftpalms ∧ u7 = kftactors ∧ u8 = kftusurers ∧ u9 = kftrate ∧ u10 = kftchest ∧ u11 = kftborrowers ∧ u12 = kft_claps ∧ u13 = kft_hands ∧ u14 = kft_hunger ∧ u15 = kft_saved ∧ u16 = kft_asks ∧ u17 = kft_floors ∧ u18 = kstpalms ∧ u19 = kstactors ∧ u20 = kstusurers ∧ u21 = kstrate ∧ u22 = kstchest ∧ u23 = kstborrowers ∧ u24 = kst_claps ∧ u25 = kst_hands ∧ u26 = kst_hunger ∧ u27 = kst_saved ∧ u28 = kst_asks ∧ u29 = kst_floors ∧ u30 = kfbdeeds ∧ u31 = kfb_parts ∧ u32 = ksbdeeds ∧ u33 = ksb_parts ∧ u34 = kfdmin ∧ u35 = kfd_halves ∧ u36 = ksdmin ∧ u37 = ksd_halves) ∨ (∃ num : Int32, OkC a b m num ∧ ∃ (b0 : Int32) (b1 : Int32) (b2 : Int32) (b3 : Int32) (b4 : Int32) (b5 : Int32) (b6 : Int32) (b7 : Int32) (b8 : Int32) (b9 : Int32) (b10 : Int32) (b11 : Int32) (b12 : Nat → Int32) (b13 : Nat → Int32) (b14 : Nat → Int32) (b15 : Nat → Int32) (b16 : Nat → Int32) (b17 : Nat → Int32) (b18 : Int32) (b19 : Nat → Int32) (b20 : Int32) (b21 : Nat → Int32) (b22 : Nat → Int32), R_k_read klength k_tape a rtoken rfrom rvalue rt_claps rt_hands rt_hunger rt_saved rt_asks rt_floors rb_parts rd_halves r_n b0 b1 b2 b3 b4 b5 b6 b7 b8 b9 b10 b11 b12 b13 b14 b15 b16 b17 b18 b19 b20 b21 b22 ∧ u1 = b0 ∧ u2 = b1 ∧ ((b0.toInt ≠ 0 ∧ u0 = -1 ∧ u3 = ktheatres ∧ u4 = kbooks ∧ u5 = kdarks ∧ u6 = kftpalms ∧ u7 = kftactors ∧ u8 = kftusurers ∧ u9 = kftrate ∧ u10 = kftchest ∧ u11 = kftborrowers ∧ u12 = kft_claps ∧ u13 = kft_hands ∧ u14 = kft_hunger ∧ u15 = kft_saved ∧ u16 = kft_asks ∧ u17 = kft_floors ∧ u18 = kstpalms ∧ u19 = kstactors ∧ u20 = kstusurers ∧ u21 = kstrate ∧ u22 = kstchest ∧ u23 = kstborrowers ∧ u24 = kst_claps ∧ u25 = kst_hands ∧ u26 = kst_hunger ∧ u27 = kst_saved ∧ u28 = kst_asks ∧ u29 = kst_floors ∧ u30 = kfbdeeds ∧ u31 = kfb_parts ∧ u32 = ksbdeeds ∧ u33 = ksb_parts ∧ u34 = kfdmin ∧ u35 = kfd_halves ∧ u36 = ksdmin ∧ u37 = ksd_halves) ∨ (b0.toInt = 0 ∧ u0 = num ∧ R_k_put a num b21 ksd_halves kdarks ktheatres kbooks kftpalms kftactors kftusurers kftrate kftchest kftborrowers kft_claps kft_hands kft_hunger kft_saved kft_asks kft_floors kstpalms kstactors kstusurers kstrate kstchest kstborrowers kst_claps kst_hands kst_hunger kst_saved kst_asks kst_floors kfbdeeds kfb_parts ksbdeeds ksb_parts kfdmin kfd_halves b20 ksdmin b19 b18 b12 b13 b14 b15 b16 b17 b6 b7 b8 b9 b10 b11 u3 u4 u5 u6 u7 u8 u9 u10 u11 u12 u13 u14 u15 u16 u17 u18 u19 u20 u21 u22 u23 u24 u25 u26 u27 u28 u29 u30 u31 u32 u33 u34 u35 u36 u37)))) := by
  obtain ⟨m, hm, h⟩ := h
  have hmm : ((a.toInt = 0 → m = ktheatres) ∧ (a.toInt = 1 → m = kbooks) ∧ (a.toInt = 2 → m = kdarks)) ∧ ((m.toInt < 0 ∧ (a.toInt < 0 ∨ 2 < a.toInt)) ∨ (0 ≤ m.toInt ∧ 0 ≤ a.toInt ∧ a.toInt ≤ 2)) := by
    clear h
    have z2 : (-2 : Int32).toInt = -2 := by decide
    rcases hm with ⟨c, e⟩ | ⟨c, e⟩ | ⟨c, e⟩ | ⟨c, e⟩
    · exact ⟨⟨fun q => by omega, fun q => by omega, fun q => by omega⟩, Or.inl ⟨by rw [e]; decide, c⟩⟩
    · exact ⟨⟨fun _ => e, fun q => by omega, fun q => by omega⟩, Or.inr ⟨by rw [e]; exact hr.1.1, by omega, by omega⟩⟩
    · exact ⟨⟨fun q => by omega, fun _ => e, fun q => by omega⟩, Or.inr ⟨by rw [e]; exact hr.2.1.1, by omega, by omega⟩⟩
    · exact ⟨⟨fun q => by omega, fun q => by omega, fun _ => e⟩, Or.inr ⟨by rw [e]; exact hr.2.2.1, by omega, by omega⟩⟩
  refine ⟨m, hmm.1, ?_⟩
  have hmm := hmm.2
  clear hm hr
  have k1 : 0 ≤ m.toInt → 0 ≤ a.toInt ∧ a.toInt ≤ 2 := by clear h; omega
  have k2 : m.toInt < 0 → (a.toInt < 0 ∨ 2 < a.toInt) := by clear h; omega
  rcases h with ⟨c, h⟩ | ⟨c, h⟩
  · rcases h with ⟨c1, R⟩ | ⟨c1, h⟩
    · exact Or.inl ⟨Or.inl (k2 c1), (And.imp_right (And.imp_right (And.imp_right (And.imp_right (And.imp_right (And.imp_right (And.imp_right (And.imp_right (And.imp_right (And.imp_right (And.imp_right (And.imp_right (And.imp_right (And.imp_right (And.imp_right (And.imp_right (And.imp_right (And.imp_right (And.imp_right (And.imp_right (And.imp_right (And.imp_right (And.imp_right (And.imp_right (And.imp_right (And.imp_right (And.imp_right (And.imp_right (And.imp_right (And.imp_right (And.imp_right (And.imp_right (And.imp_right (And.imp_right (And.imp_right (And.imp_right (And.imp_right (And.left)))))))))))))))))))))))))))))))))))))) R⟩
    · rcases h with ⟨c2, R⟩ | ⟨c2, h⟩
      · exact Or.inl ⟨Or.inr (Or.inr ⟨c, Or.inl c2⟩), (And.imp_right (And.imp_right (And.imp_right (And.imp_right (And.imp_right (And.imp_right (And.imp_right (And.imp_right (And.imp_right (And.imp_right (And.imp_right (And.imp_right (And.imp_right (And.imp_right (And.imp_right (And.imp_right (And.imp_right (And.imp_right (And.imp_right (And.imp_right (And.imp_right (And.imp_right (And.imp_right (And.imp_right (And.imp_right (And.imp_right (And.imp_right (And.imp_right (And.imp_right (And.imp_right (And.imp_right (And.imp_right (And.imp_right (And.imp_right (And.imp_right (And.imp_right (And.imp_right (And.left)))))))))))))))))))))))))))))))))))))) R⟩
      · rcases h with ⟨c3, b0, b1, b2, b3, b4, b5, b6, b7, b8, b9, b10, b11, b12, b13, b14, b15, b16, b17, b18, b19, b20, b21, b22, hrd, h⟩ | ⟨c3, R⟩
        · refine Or.inr ⟨b, ⟨k1 c1, Or.inr ⟨c, c2, c3, rfl⟩⟩, b0, b1, b2, b3, b4, b5, b6, b7, b8, b9, b10, b11, b12, b13, b14, b15, b16, b17, b18, b19, b20, b21, b22, hrd, ?_⟩
          rcases h with ⟨c4, p0, p1, p2, p3, p4, p5, p6, p7, p8, p9, p10, p11, p12, p13, p14, p15, p16, p17, p18, p19, p20, p21, p22, p23, p24, p25, p26, p27, p28, p29, p30, p31, p32, p33, p34, hput, R⟩ | ⟨c4, R⟩
          · refine ⟨R.2.1, R.2.2.1, Or.inr ⟨c4, R.1, ?_⟩⟩
            obtain ⟨e3, e4, e5, e6, e7, e8, e9, e10, rst_⟩ := R.2.2.2
            obtain ⟨e11, e12, e13, e14, e15, e16, e17, e18, rst_⟩ := rst_
            obtain ⟨e19, e20, e21, e22, e23, e24, e25, e26, rst_⟩ := rst_
            obtain ⟨e27, e28, e29, e30, e31, e32, e33, e34, rst_⟩ := rst_
            obtain ⟨e35, e36, e37, -⟩ := rst_
            rw [e3, e4, e5, e6, e7, e8, e9, e10, e11, e12, e13, e14, e15, e16, e17, e18, e19, e20, e21, e22, e23, e24, e25, e26, e27, e28, e29, e30, e31, e32, e33, e34, e35, e36, e37]
            exact hput
          · exact ⟨R.2.1, R.2.2.1, Or.inl ⟨c4, R.1, (And.imp_right (And.imp_right (And.imp_right (And.imp_right (And.imp_right (And.imp_right (And.imp_right (And.imp_right (And.imp_right (And.imp_right (And.imp_right (And.imp_right (And.imp_right (And.imp_right (And.imp_right (And.imp_right (And.imp_right (And.imp_right (And.imp_right (And.imp_right (And.imp_right (And.imp_right (And.imp_right (And.imp_right (And.imp_right (And.imp_right (And.imp_right (And.imp_right (And.imp_right (And.imp_right (And.imp_right (And.imp_right (And.imp_right (And.imp_right (And.left))))))))))))))))))))))))))))))))))) R.2.2.2⟩⟩
        · exact Or.inl ⟨Or.inr (Or.inr ⟨c, Or.inr c3⟩), (And.imp_right (And.imp_right (And.imp_right (And.imp_right (And.imp_right (And.imp_right (And.imp_right (And.imp_right (And.imp_right (And.imp_right (And.imp_right (And.imp_right (And.imp_right (And.imp_right (And.imp_right (And.imp_right (And.imp_right (And.imp_right (And.imp_right (And.imp_right (And.imp_right (And.imp_right (And.imp_right (And.imp_right (And.imp_right (And.imp_right (And.imp_right (And.imp_right (And.imp_right (And.imp_right (And.imp_right (And.imp_right (And.imp_right (And.imp_right (And.imp_right (And.imp_right (And.imp_right (And.left)))))))))))))))))))))))))))))))))))))) R⟩
  · rcases h with ⟨c1, R⟩ | ⟨c1, h⟩
    · exact Or.inl ⟨Or.inl (k2 c1), (And.imp_right (And.imp_right (And.imp_right (And.imp_right (And.imp_right (And.imp_right (And.imp_right (And.imp_right (And.imp_right (And.imp_right (And.imp_right (And.imp_right (And.imp_right (And.imp_right (And.imp_right (And.imp_right (And.imp_right (And.imp_right (And.imp_right (And.imp_right (And.imp_right (And.imp_right (And.imp_right (And.imp_right (And.imp_right (And.imp_right (And.imp_right (And.imp_right (And.imp_right (And.imp_right (And.imp_right (And.imp_right (And.imp_right (And.imp_right (And.imp_right (And.imp_right (And.imp_right (And.left)))))))))))))))))))))))))))))))))))))) R⟩
    · rcases h with ⟨c2, R⟩ | ⟨c2, b0, b1, b2, b3, b4, b5, b6, b7, b8, b9, b10, b11, b12, b13, b14, b15, b16, b17, b18, b19, b20, b21, b22, hrd, h⟩
      · exact Or.inl ⟨Or.inr (Or.inl ⟨c, c2⟩), (And.imp_right (And.imp_right (And.imp_right (And.imp_right (And.imp_right (And.imp_right (And.imp_right (And.imp_right (And.imp_right (And.imp_right (And.imp_right (And.imp_right (And.imp_right (And.imp_right (And.imp_right (And.imp_right (And.imp_right (And.imp_right (And.imp_right (And.imp_right (And.imp_right (And.imp_right (And.imp_right (And.imp_right (And.imp_right (And.imp_right (And.imp_right (And.imp_right (And.imp_right (And.imp_right (And.imp_right (And.imp_right (And.imp_right (And.imp_right (And.imp_right (And.imp_right (And.imp_right (And.left)))))))))))))))))))))))))))))))))))))) R⟩
      · refine Or.inr ⟨m, ⟨k1 c1, Or.inl ⟨c, c2, rfl⟩⟩, b0, b1, b2, b3, b4, b5, b6, b7, b8, b9, b10, b11, b12, b13, b14, b15, b16, b17, b18, b19, b20, b21, b22, hrd, ?_⟩
        rcases h with ⟨c4, p0, p1, p2, p3, p4, p5, p6, p7, p8, p9, p10, p11, p12, p13, p14, p15, p16, p17, p18, p19, p20, p21, p22, p23, p24, p25, p26, p27, p28, p29, p30, p31, p32, p33, p34, hput, R⟩ | ⟨c4, R⟩
        · refine ⟨R.2.1, R.2.2.1, Or.inr ⟨c4, R.1, ?_⟩⟩
          obtain ⟨e3, e4, e5, e6, e7, e8, e9, e10, rst_⟩ := R.2.2.2
          obtain ⟨e11, e12, e13, e14, e15, e16, e17, e18, rst_⟩ := rst_
          obtain ⟨e19, e20, e21, e22, e23, e24, e25, e26, rst_⟩ := rst_
          obtain ⟨e27, e28, e29, e30, e31, e32, e33, e34, rst_⟩ := rst_
          obtain ⟨e35, e36, e37, -⟩ := rst_
          rw [e3, e4, e5, e6, e7, e8, e9, e10, e11, e12, e13, e14, e15, e16, e17, e18, e19, e20, e21, e22, e23, e24, e25, e26, e27, e28, e29, e30, e31, e32, e33, e34, e35, e36, e37]
          exact hput
        · exact ⟨R.2.1, R.2.2.1, Or.inl ⟨c4, R.1, (And.imp_right (And.imp_right (And.imp_right (And.imp_right (And.imp_right (And.imp_right (And.imp_right (And.imp_right (And.imp_right (And.imp_right (And.imp_right (And.imp_right (And.imp_right (And.imp_right (And.imp_right (And.imp_right (And.imp_right (And.imp_right (And.imp_right (And.imp_right (And.imp_right (And.imp_right (And.imp_right (And.imp_right (And.imp_right (And.imp_right (And.imp_right (And.imp_right (And.imp_right (And.imp_right (And.imp_right (And.imp_right (And.imp_right (And.imp_right (And.left))))))))))))))))))))))))))))))))))) R.2.2.2⟩⟩
theorem cy {m_size : Nat → Int32} {m_fault : Nat → Int32} {m_faultPlace : Nat → Int32} {a : Int32} {b : Int32} {m_many : Nat → Int32} {m_tape : Nat → Int32} {xvalue : Int32} {xwrongAt : Int32} {xlaterPlace : Int32} {m_read : Nat → Int32} {m_told : Nat → Int32} {m_darks : Nat → Int32} {m_theatres : Nat → Int32} {m_books : Nat → Int32} {xreached : Int32} {xbegins : Int32} {xsort : Int32} {xword : Int64} {xlaterFault : Int32} {u0 : Int32} {u1 : Int32} {u2 : Int32} {u3 : Int32} {u4 : Int32} {u5 : Int32} {u6 : Int64} {u7 : Int32} {u8 : Int32} {u9 : Int32} {u10 : Nat → Int32} {u11 : Nat → Int32} {u12 : Nat → Int32} {u13 : Nat → Int32} {u14 : Nat → Int32} {u15 : Nat → Int32} {u16 : Nat → Int32} {u17 : Nat → Int32} {u18 : Nat → Int32} (hr : ∀ j : Nat, 0 ≤ (m_many j).toInt ∧ (m_many j).toInt ≤ 2) (h : R_y_text m_size m_fault m_faultPlace a b m_many m_tape xvalue xwrongAt xlaterPlace m_read m_told m_darks m_theatres m_books xreached xbegins xsort xword xlaterFault u0 u1 u2 u3 u4 u5 u6 u7 u8 u9 u10 u11 u12 u13 u14 u15 u16 u17 u18) : ∃ m : Int32, m = m_many (Int32.toNatClampNeg a) ∧ u10 = upd m_size 0 0 ∧ ((RefC a b m ∧ u0 = -2 ∧ u11 = upd m_fault 0 0 ∧ u12 = upd m_faultPlace 0 (-1) ∧ u13 = m_many ∧ u14 = m_theatres ∧ u15 = m_books ∧ u16 = m_darks) ∨ (∃ num : Int32, OkC a b m num ∧ ∃ (w0 : Int32) (w1 : Int32) (w2 : Int32) (w3 : Int32) (w4 : Int32) (w5 : Int64) (w6 : Int32) (w7 : Int32) (w8 : Int32) (w9 : Nat → Int32) (w10 : Nat → Int32) (w11 : Nat → Int32) (w12 : Nat → Int32), R_j_readText a (m_size 0) m_tape xvalue xwrongAt xlaterPlace m_read (upd m_fault 0 0) (upd m_faultPlace 0 (-1)) m_told w0 w1 w2 w3 w4 w5 w6 w7 w8 w9 w10 w11 w12 ∧ u11 = w9 ∧ u12 = w10 ∧ ((w0.toInt = 0 ∧ u0 = -1 ∧ u13 = m_many ∧ u14 = m_theatres ∧ u15 = m_books ∧ u16 = m_darks) ∨ (w0.toInt ≠ 0 ∧ u0 = num ∧ ((b.toInt = -1 ∧ u13 = upd m_many (Int32.toNatClampNeg a) (m + 1)) ∨ (b.toInt ≠ -1 ∧ u13 = upd m_many (Int32.toNatClampNeg a) (m + 0))) ∧ ((a.toInt = 0 ∧ R_j_storeT num w11 m_theatres u14 ∧ u15 = m_books ∧ u16 = m_darks) ∨ (a.toInt = 1 ∧ R_j_storeB num w11 m_books u15 ∧ u14 = m_theatres ∧ u16 = m_darks) ∨ (a.toInt = 2 ∧ R_j_storeD num w11 m_darks u16 ∧ u14 = m_theatres ∧ u15 = m_books)))))) := by
  obtain ⟨z1, f1, g2, f2, g3, f3, g4, f4, r5, hin, h⟩ := h
  have f1 : z1 = m_size 0 := f1
  subst f1; subst f2; subst f3; subst f4
  have hin := in_sp hin
  refine ⟨_, rfl, ?_⟩
  have z10 : ((1 : Int32) = 0) → False := by decide
  rcases h with ⟨c, h⟩ | ⟨c, e0, e1, e2, e3, e4, e5, e6, e7, e8, e9, e10, e11, e12, e13, e14, e15, e16, e17, e18⟩
  · have hi : 0 ≤ a.toInt ∧ a.toInt ≤ 2 := by
      rcases hin with ⟨-, p⟩ | ⟨p, -⟩
      · exact p
      · exact (z10 (c.symm.trans p)).elim
    have k3 : a.toInt ≠ 0 → a.toInt ≠ 1 → a.toInt = 2 := by clear h; omega
    clear hin
    rcases h with ⟨c1, q, hq, h⟩ | ⟨c1, b1, f5, h⟩
    · obtain ⟨y1, k1, y2, k2, r3, hr3, hq⟩ := hq
      have hy : y1 = m_many (Int32.toNatClampNeg a) := k1
      subst hy
      have hr3 := in_sp hr3
      rcases h with ⟨c2, w0, w1, w2, w3, w4, w5, w6, w7, w8, w9, w10, w11, w12, hrd, h⟩ | ⟨c2, e0, e1, e2, e3, e4, e5, e6, e7, e8, e9, e10, e11, e12, e13, e14, e15, e16, e17, e18⟩
      · have ok : 0 ≤ b.toInt ∧ b.toInt < (m_many (Int32.toNatClampNeg a)).toInt := by
          clear h hrd
          rcases hq with ⟨q1, q2⟩ | ⟨q1, q2⟩
          · rcases hr3 with ⟨-, p⟩ | ⟨p, -⟩
            · omega
            · exact (z10 (q1.symm.trans p)).elim
          · exact (z10 (c2.symm.trans q2)).elim
        clear hq hr3
        rcases h with ⟨c4, b0, f0, b1, fb1, b2, fb2, h⟩ | ⟨c4, e0, e1, e2, e3, e4, e5, e6, e7, e8, e9, e10, e11, e12, e13, e14, e15, e16, e17, e18⟩
        · refine ⟨?_, Or.inr ⟨b, ⟨hi, Or.inr ⟨c1, ok.1, ok.2, rfl⟩⟩, w0, w1, w2, w3, w4, w5, w6, w7, w8, w9, w10, w11, w12, hrd, ?_⟩⟩
          · rcases h with ⟨c7, ⟨c8, sd, hst, e0, e1, e2, e3, e4, e5, e6, e7, e8, e9, e10, e11, e12, e13, e14, e15, e16, e17, e18⟩ | ⟨c8, sd, hst, e0, e1, e2, e3, e4, e5, e6, e7, e8, e9, e10, e11, e12, e13, e14, e15, e16, e17, e18⟩⟩ | ⟨c7, sd, hst, e0, e1, e2, e3, e4, e5, e6, e7, e8, e9, e10, e11, e12, e13, e14, e15, e16, e17, e18⟩ <;> exact e10
          · clear hrd
            rcases h with ⟨c7, ⟨c8, sd, hst, e0, e1, e2, e3, e4, e5, e6, e7, e8, e9, e10, e11, e12, e13, e14, e15, e16, e17, e18⟩ | ⟨c8, sd, hst, e0, e1, e2, e3, e4, e5, e6, e7, e8, e9, e10, e11, e12, e13, e14, e15, e16, e17, e18⟩⟩ | ⟨c7, sd, hst, e0, e1, e2, e3, e4, e5, e6, e7, e8, e9, e10, e11, e12, e13, e14, e15, e16, e17, e18⟩
            · refine ⟨e11, e12, Or.inr ⟨c4, e0, Or.inr ⟨c1, by rw [e13, ← fb2, fb1, f0]⟩, Or.inr (Or.inr ⟨k3 c7 c8, ?_, e14, e15⟩)⟩⟩
              rw [e16]; exact hst
            · refine ⟨e11, e12, Or.inr ⟨c4, e0, Or.inr ⟨c1, by rw [e13, ← fb2, fb1, f0]⟩, Or.inr (Or.inl ⟨c8, ?_, e14, e16⟩)⟩⟩
              rw [e15]; exact hst
            · refine ⟨e11, e12, Or.inr ⟨c4, e0, Or.inr ⟨c1, by rw [e13, ← fb2, fb1, f0]⟩, Or.inl ⟨c7, ?_, e15, e16⟩⟩⟩
              rw [e14]; exact hst
        · exact ⟨e10, Or.inr ⟨b, ⟨hi, Or.inr ⟨c1, ok.1, ok.2, rfl⟩⟩, w0, w1, w2, w3, w4, w5, w6, w7, w8, w9, w10, w11, w12, hrd, e11, e12, Or.inl ⟨c4, e0, e13, e14, e15, e16⟩⟩⟩
      · have no : b.toInt < 0 ∨ (m_many (Int32.toNatClampNeg a)).toInt ≤ b.toInt := by
          rcases hq with ⟨q1, q2⟩ | ⟨q1, q2⟩
          · exact (z10 (q2.symm.trans c2)).elim
          · rcases hr3 with ⟨p, -⟩ | ⟨-, p⟩
            · exact (z10 (p.symm.trans q1)).elim
            · omega
        exact ⟨e10, Or.inl ⟨Or.inr (Or.inr ⟨c1, no⟩), e0, e11, e12, e13, e14, e15, e16⟩⟩
    · subst f5
      rcases h with ⟨c2, w0, w1, w2, w3, w4, w5, w6, w7, w8, w9, w10, w11, w12, hrd, h⟩ | ⟨c2, e0, e1, e2, e3, e4, e5, e6, e7, e8, e9, e10, e11, e12, e13, e14, e15, e16, e17, e18⟩
      · have ok : (m_many (Int32.toNatClampNeg a)).toInt < 2 := by
          clear h hrd
          have := hr (Int32.toNatClampNeg a)
          omega
        rcases h with ⟨c4, b0, f0, b1, fb1, h⟩ | ⟨c4, e0, e1, e2, e3, e4, e5, e6, e7, e8, e9, e10, e11, e12, e13, e14, e15, e16, e17, e18⟩
        · refine ⟨?_, Or.inr ⟨m_many (Int32.toNatClampNeg a), ⟨hi, Or.inl ⟨c1, ok, rfl⟩⟩, w0, w1, w2, w3, w4, w5, w6, w7, w8, w9, w10, w11, w12, hrd, ?_⟩⟩
          · rcases h with ⟨c7, ⟨c8, sd, hst, e0, e1, e2, e3, e4, e5, e6, e7, e8, e9, e10, e11, e12, e13, e14, e15, e16, e17, e18⟩ | ⟨c8, sd, hst, e0, e1, e2, e3, e4, e5, e6, e7, e8, e9, e10, e11, e12, e13, e14, e15, e16, e17, e18⟩⟩ | ⟨c7, sd, hst, e0, e1, e2, e3, e4, e5, e6, e7, e8, e9, e10, e11, e12, e13, e14, e15, e16, e17, e18⟩ <;> exact e10
          · clear hrd
            rcases h with ⟨c7, ⟨c8, sd, hst, e0, e1, e2, e3, e4, e5, e6, e7, e8, e9, e10, e11, e12, e13, e14, e15, e16, e17, e18⟩ | ⟨c8, sd, hst, e0, e1, e2, e3, e4, e5, e6, e7, e8, e9, e10, e11, e12, e13, e14, e15, e16, e17, e18⟩⟩ | ⟨c7, sd, hst, e0, e1, e2, e3, e4, e5, e6, e7, e8, e9, e10, e11, e12, e13, e14, e15, e16, e17, e18⟩
            · refine ⟨e11, e12, Or.inr ⟨c4, e0, Or.inl ⟨c1, by rw [e13, ← fb1, f0]⟩, Or.inr (Or.inr ⟨k3 c7 c8, ?_, e14, e15⟩)⟩⟩
              rw [e16]; exact hst
            · refine ⟨e11, e12, Or.inr ⟨c4, e0, Or.inl ⟨c1, by rw [e13, ← fb1, f0]⟩, Or.inr (Or.inl ⟨c8, ?_, e14, e16⟩)⟩⟩
              rw [e15]; exact hst
            · refine ⟨e11, e12, Or.inr ⟨c4, e0, Or.inl ⟨c1, by rw [e13, ← fb1, f0]⟩, Or.inl ⟨c7, ?_, e15, e16⟩⟩⟩
              rw [e14]; exact hst
        · exact ⟨e10, Or.inr ⟨m_many (Int32.toNatClampNeg a), ⟨hi, Or.inl ⟨c1, ok, rfl⟩⟩, w0, w1, w2, w3, w4, w5, w6, w7, w8, w9, w10, w11, w12, hrd, e11, e12, Or.inl ⟨c4, e0, e13, e14, e15, e16⟩⟩⟩
      · exact ⟨e10, Or.inl ⟨Or.inr (Or.inl ⟨c1, by omega⟩), e0, e11, e12, e13, e14, e15, e16⟩⟩
  · have hi : a.toInt < 0 ∨ 2 < a.toInt := by
      rcases hin with ⟨p, -⟩ | ⟨-, p⟩
      · exact (z10 (p.symm.trans c)).elim
      · exact p
    exact ⟨e10, Or.inl ⟨Or.inl hi, e0, e11, e12, e13, e14, e15, e16⟩⟩

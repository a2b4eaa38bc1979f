/-- what an album keeps -/
def sameK (P E : PT) : Prop := P.1.1 = E.1.1 ∧ P.1.2.1 = E.1.2.1 ∧ (∀ s, s < P.1.1 → P.2 2 s = E.2 2 s) ∧ (∀ s, s < P.1.2.1 → P.2 6 s = E.2 6 s)
theorem isC.oI {w : Wd} {b b2 j : Nat} {P : PT} {x : Int32} (h : isC w b2 P) (hne : ¬ b = b2) (hj : j < 4) : isC (sI w (pj b j) x) b2 P := by
  have e : ∀ i, i < 4 → pn (sI w (pj b j) x) b2 i = pn w b2 i := fun i hi => by
    unfold pn sI upd pj
    have : ¬ 8 + 4 * b2 + i = 8 + 4 * b + j := by omega
    simp [this]
  obtain ⟨h1, h2, h3, h4, h5, h6, h7, h8⟩ := h
  exact ⟨by rw [e 0 (by decide)]; exact h1, by rw [e 1 (by decide)]; exact h2, by rw [e 2 (by decide)]; exact h3, by rw [e 3 (by decide)]; exact h4, h5, h6, h7, h8⟩
theorem isC.fr {w u : Wd} {b b2 : Nat} {P : PT} (h : isC w b2 P) (hne : ¬ b = b2) (hF : Fr b w u) : isC u b2 P := by
  have e : ∀ i, i < 4 → pn u b2 i = pn w b2 i := fun i hi => hF.1 _ (by unfold pj; omega)
  have e2 : ∀ j, j < 8 → px u b2 j = px w b2 j := fun j hj => hF.2.2 _ (by unfold ar; omega)
  obtain ⟨h1, h2, h3, h4, h5, h6, h7, h8⟩ := h
  exact ⟨by rw [e 0 (by decide)]; exact h1, by rw [e 1 (by decide)]; exact h2, by rw [e 2 (by decide)]; exact h3, by rw [e 3 (by decide)]; exact h4, h5, h6, fun j s a c => by rw [e2 j (by omega)]; exact h7 j s a c, fun j s a a2 c => by rw [e2 j a2]; exact h8 j s a a2 c⟩
theorem isC.oF {w u : Wd} {b b2 j : Nat} {P : PT} (h : isC w b2 P) (hne : ¬ b = b2) (hb : b2 < 2) (hF : FrA (ar b j) w u) (hj : j < 8) : isC u b2 P := h.fr hne (hF.fr hj)
set_option maxHeartbeats 4000000 in
set_option maxRecDepth 100000 in
theorem c_X0_load {g : Nat} (hg : g < 2) {b : Nat} (hb : b < 2) {w : Wd} {P E : PT} (hC : isC w b P) {k : Nat} (hk : 30 * k + 30 ≤ mlen g) (hR : rowR (w.2.2 (mc g)) (30 * k) E) (hS : sameK P E) (hz : E.1.2.2.2 = 0 ∨ E.1.2.2.2 = 1) {Q : Option Value → Wd → Prop} (hQ : ∀ u, isC u b E → Fr b w u → Q none u) : V mX0_load 0 [some (.ref (mr g)), some (.int (nI k)), some (.ref (pr b)), none] [] w Q := by
  have hm := mlen_lt g
  have h5 := hC.2.2.2.2.1
  have h4 := hC.2.2.2.2.2.1
  obtain ⟨a, ha⟩ : ∃ a, a = 30 * k := ⟨_, rfl⟩
  rw [← ha] at hR
  obtain ⟨r1, r2, r3, r4⟩ := hR
  obtain ⟨s1, s2, s3, s4⟩ := hS
  refine la_4_0 1 dX0_load_0 rfl ?_
  refine li_4_1 2 dX0_load_1 rfl ?_
  refine v_cVI1 5 dX0_load_2 rfl fvX0_holds fiX0_holds ml_X0_21 (seX0 hg) rfl ⟨(Nat.le_of_ble_eq_true rfl), (Nat.le_of_ble_eq_true rfl)⟩ (Nat.le_of_ble_eq_true rfl) (Nat.le_of_ble_eq_true rfl) (c_X0_holds hg hk ⟨_, rfl, ?_⟩) rfl
  refine v_if_ne 9 8 dX0_load_5 rfl rfl (fun h5 => ?_) (fun h5 => ?_)
  · refine li_4_1 10 dX0_load_9 rfl ?_
    refine v_bipush (v := 30) 12 dX0_load_10 rfl kb_30 ?_
    refine v_imul 13 dX0_load_12 rfl ?_
    rw [show nI k * 30 = nI a from by rw [show (30 : Int32) = nI 30 from rfl, pk_mul, ha]; congr 1; omega]
    refine si_4_3 rfl 14 dX0_load_13 rfl rfl ?_
    refine la_4_0 15 dX0_load_14 rfl ?_
    refine vg_X0_17 hg rfl 18 dX0_load_15 rfl ?_
    refine li_4_3 19 dX0_load_18 rfl ?_
    refine la_4_2 20 dX0_load_19 rfl ?_
    refine vg_X0_25 hb rfl 23 dX0_load_20 rfl ?_
    refine v_iconst (v := 0) 24 dX0_load_23 rfl ki_0 ?_
    refine v_iconst (v := 5) 25 dX0_load_24 rfl ki_5 ?_
    refine v_copyR a 0 5 28 dX0_load_25 rfl ml_X0_30 (saX0_cells hg) (saX1_age hb) (fun f kI kZ => suX1_age hb kI kZ) (by omega) (by omega) (by omega) (by omega) (by decide) (by decide) (Nat.le_of_ble_eq_true rfl) (fun u1 e1 F1 => ?_)
    refine la_4_0 29 dX0_load_28 rfl ?_
    refine vg_X0_17 hg rfl 32 dX0_load_29 rfl ?_
    refine li_4_3 33 dX0_load_32 rfl ?_
    refine v_iconst (v := 5) 34 dX0_load_33 rfl ki_5 ?_
    refine v_iadd 35 dX0_load_34 rfl ?_
    rw [show nI a + 5 = nI (a + 5) from nI_add a 5]
    refine la_4_2 36 dX0_load_35 rfl ?_
    refine vg_X0_36 hb rfl 39 dX0_load_36 rfl ?_
    refine v_iconst (v := 0) 40 dX0_load_39 rfl ki_0 ?_
    refine v_iconst (v := 5) 41 dX0_load_40 rfl ki_5 ?_
    refine v_copyR (a + 5) 0 5 44 dX0_load_41 rfl ml_X0_30 (saX0_cells hg) (saX1_health hb) (fun f kI kZ => suX1_health hb kI kZ) (by omega) (by omega) (by omega) (by omega) (by decide) (by decide) (Nat.le_of_ble_eq_true rfl) (fun u2 e2 F2 => ?_)
    refine la_4_0 45 dX0_load_44 rfl ?_
    refine vg_X0_17 hg rfl 48 dX0_load_45 rfl ?_
    refine li_4_3 49 dX0_load_48 rfl ?_
    refine v_bipush (v := 10) 51 dX0_load_49 rfl kb_10 ?_
    refine v_iadd 52 dX0_load_51 rfl ?_
    rw [show nI a + 10 = nI (a + 10) from nI_add a 10]
    refine la_4_2 53 dX0_load_52 rfl ?_
    refine vg_X0_39 hb rfl 56 dX0_load_53 rfl ?_
    refine v_iconst (v := 0) 57 dX0_load_56 rfl ki_0 ?_
    refine v_iconst (v := 5) 58 dX0_load_57 rfl ki_5 ?_
    refine v_copyR (a + 10) 0 5 61 dX0_load_58 rfl ml_X0_30 (saX0_cells hg) (saX1_joined hb) (fun f kI kZ => suX1_joined hb kI kZ) (by omega) (by omega) (by omega) (by omega) (by decide) (by decide) (Nat.le_of_ble_eq_true rfl) (fun u3 e3 F3 => ?_)
    refine la_4_0 62 dX0_load_61 rfl ?_
    refine vg_X0_17 hg rfl 65 dX0_load_62 rfl ?_
    refine li_4_3 66 dX0_load_65 rfl ?_
    refine v_bipush (v := 15) 68 dX0_load_66 rfl kb_15 ?_
    refine v_iadd 69 dX0_load_68 rfl ?_
    rw [show nI a + 15 = nI (a + 15) from nI_add a 15]
    refine la_4_2 70 dX0_load_69 rfl ?_
    refine vg_X0_42 hb rfl 73 dX0_load_70 rfl ?_
    refine v_iconst (v := 0) 74 dX0_load_73 rfl ki_0 ?_
    refine v_iconst (v := 5) 75 dX0_load_74 rfl ki_5 ?_
    refine v_copyR (a + 15) 0 5 78 dX0_load_75 rfl ml_X0_30 (saX0_cells hg) (saX1_on hb) (fun f kI kZ => suX1_on hb kI kZ) (by omega) (by omega) (by omega) (by omega) (by decide) (by decide) (Nat.le_of_ble_eq_true rfl) (fun u4 e4 F4 => ?_)
    refine la_4_0 79 dX0_load_78 rfl ?_
    refine vg_X0_17 hg rfl 82 dX0_load_79 rfl ?_
    refine li_4_3 83 dX0_load_82 rfl ?_
    refine v_bipush (v := 20) 85 dX0_load_83 rfl kb_20 ?_
    refine v_iadd 86 dX0_load_85 rfl ?_
    rw [show nI a + 20 = nI (a + 20) from nI_add a 20]
    refine la_4_2 87 dX0_load_86 rfl ?_
    refine vg_X0_45 hb rfl 90 dX0_load_87 rfl ?_
    refine v_iconst (v := 0) 91 dX0_load_90 rfl ki_0 ?_
    refine v_iconst (v := 4) 92 dX0_load_91 rfl ki_4 ?_
    refine v_copyR (a + 20) 0 4 95 dX0_load_92 rfl ml_X0_30 (saX0_cells hg) (saX1_left hb) (fun f kI kZ => suX1_left hb kI kZ) (by omega) (by omega) (by omega) (by omega) (by decide) (by decide) (Nat.le_of_ble_eq_true rfl) (fun u5 e5 F5 => ?_)
    refine la_4_0 96 dX0_load_95 rfl ?_
    refine vg_X0_17 hg rfl 99 dX0_load_96 rfl ?_
    refine li_4_3 100 dX0_load_99 rfl ?_
    refine v_bipush (v := 24) 102 dX0_load_100 rfl kb_24 ?_
    refine v_iadd 103 dX0_load_102 rfl ?_
    rw [show nI a + 24 = nI (a + 24) from nI_add a 24]
    refine la_4_2 104 dX0_load_103 rfl ?_
    refine vg_X0_48 hb rfl 107 dX0_load_104 rfl ?_
    refine v_iconst (v := 0) 108 dX0_load_107 rfl ki_0 ?_
    refine v_iconst (v := 4) 109 dX0_load_108 rfl ki_4 ?_
    refine v_copyR (a + 24) 0 4 112 dX0_load_109 rfl ml_X0_30 (saX0_cells hg) (saX1_fate hb) (fun f kI kZ => suX1_fate hb kI kZ) (by omega) (by omega) (by omega) (by omega) (by decide) (by decide) (Nat.le_of_ble_eq_true rfl) (fun u6 e6 F6 => ?_)
    refine la_4_2 113 dX0_load_112 rfl ?_
    refine la_4_0 114 dX0_load_113 rfl ?_
    refine vg_X0_17 hg rfl 117 dX0_load_114 rfl ?_
    refine li_4_3 118 dX0_load_117 rfl ?_
    refine v_bipush (v := 28) 120 dX0_load_118 rfl kb_28 ?_
    refine v_iadd 121 dX0_load_120 rfl ?_
    rw [show nI a + 28 = nI (a + 28) from nI_add a 28]
    refine vl_X0_cells hg (a + 28) 122 dX0_load_121 rfl rfl (by omega) ?_
    refine v_iconst (v := 1) 123 dX0_load_122 rfl ki_1 ?_
    refine v_icmp_ne 130 126 dX0_load_123 rfl rfl (fun h123 => ?_) (fun h123 => ?_)
    · have hd : ¬ E.1.2.2.2 = 1 := by rw [← (show u6.2.2 (mc g) (a + 28) = E.1.2.2.2 by rw [F6.2.2 (mc g) (by unfold ar mc; omega), F5.2.2 (mc g) (by unfold ar mc; omega), F4.2.2 (mc g) (by unfold ar mc; omega), F3.2.2 (mc g) (by unfold ar mc; omega), F2.2.2 (mc g) (by unfold ar mc; omega), F1.2.2 (mc g) (by unfold ar mc; omega)]; exact r2)]; exact h123
      refine v_iconst (v := 0) 131 dX0_load_130 rfl ki_0 ?_
      refine vs_X0_51 hb rfl 134 dX0_load_131 rfl (Or.inl rfl) ?_
      refine la_4_2 135 dX0_load_134 rfl ?_
      refine la_4_0 136 dX0_load_135 rfl ?_
      refine vg_X0_17 hg rfl 139 dX0_load_136 rfl ?_
      refine li_4_3 140 dX0_load_139 rfl ?_
      refine v_bipush (v := 29) 142 dX0_load_140 rfl kb_29 ?_
      refine v_iadd 143 dX0_load_142 rfl ?_
      rw [show nI a + 29 = nI (a + 29) from nI_add a 29]
      refine vl_X0_cells hg (a + 29) 144 dX0_load_143 rfl rfl (by omega) ?_
      refine vs_X0_55 hb rfl 147 dX0_load_144 rfl ?_
      refine v_vret dX0_load_147 rfl ?_
      refine hQ _ ⟨?_, ?_, ?_, ?_, by omega, by omega, fun j s hj hs => ?_, fun j s hj hj2 hs => ?_⟩ ?_
      · rw [pn_sI, if_neg (by decide), pn_sI, if_neg (by decide)]; show u6.1 (pj b 0) = _; rw [F6.1, F5.1, F4.1, F3.1, F2.1, F1.1]; exact hC.1.trans (by rw [s1])
      · rw [pn_sI, if_neg (by decide), pn_sI, if_neg (by decide)]; show u6.1 (pj b 1) = _; rw [F6.1, F5.1, F4.1, F3.1, F2.1, F1.1]; exact hC.2.1.trans (by rw [s2])
      · rw [pn_sI, if_pos rfl]; show u6.2.2 (mc g) (a + 29) = _; rw [F6.2.2 (mc g) (by unfold ar mc; omega), F5.2.2 (mc g) (by unfold ar mc; omega), F4.2.2 (mc g) (by unfold ar mc; omega), F3.2.2 (mc g) (by unfold ar mc; omega), F2.2.2 (mc g) (by unfold ar mc; omega), F1.2.2 (mc g) (by unfold ar mc; omega)]; exact r1
      · rw [pn_sI, if_neg (by decide), pn_sI, if_pos rfl]; exact (hz.resolve_right hd).symm
      · rw [← s1] at hs
        rcases (show j = 0 ∨ j = 1 ∨ j = 2 ∨ j = 3 ∨ j = 4 by omega) with rfl | rfl | rfl | rfl | rfl
        · show u6.2.2 (ar b 0) s = _; rw [F6.2.2 _ (by unfold ar; omega), F5.2.2 _ (by unfold ar; omega), F4.2.2 _ (by unfold ar; omega), F3.2.2 _ (by unfold ar; omega), F2.2.2 _ (by unfold ar; omega), e1, if_pos (by omega), Nat.sub_zero]; exact (r3 s (by omega)).1
        · show u6.2.2 (ar b 1) s = _; rw [F6.2.2 _ (by unfold ar; omega), F5.2.2 _ (by unfold ar; omega), F4.2.2 _ (by unfold ar; omega), F3.2.2 _ (by unfold ar; omega), e2, if_pos (by omega), F1.2.2 (mc g) (by unfold ar mc; omega), Nat.sub_zero]; exact (r3 s (by omega)).2.1
        · show u6.2.2 (ar b 2) s = _; rw [F6.2.2 _ (by unfold ar; omega), F5.2.2 _ (by unfold ar; omega), F4.2.2 _ (by unfold ar; omega), F3.2.2 _ (by unfold ar; omega), F2.2.2 _ (by unfold ar; omega), F1.2.2 _ (by unfold ar; omega)]; exact (hC.2.2.2.2.2.2.1 2 s (by decide) hs).trans (s3 s hs)
        · show u6.2.2 (ar b 3) s = _; rw [F6.2.2 _ (by unfold ar; omega), F5.2.2 _ (by unfold ar; omega), F4.2.2 _ (by unfold ar; omega), e3, if_pos (by omega), F2.2.2 (mc g) (by unfold ar mc; omega), F1.2.2 (mc g) (by unfold ar mc; omega), Nat.sub_zero]; exact (r3 s (by omega)).2.2.1
        · show u6.2.2 (ar b 4) s = _; rw [F6.2.2 _ (by unfold ar; omega), F5.2.2 _ (by unfold ar; omega), e4, if_pos (by omega), F3.2.2 (mc g) (by unfold ar mc; omega), F2.2.2 (mc g) (by unfold ar mc; omega), F1.2.2 (mc g) (by unfold ar mc; omega), Nat.sub_zero]; exact (r3 s (by omega)).2.2.2
      · rw [← s2] at hs
        rcases (show j = 5 ∨ j = 6 ∨ j = 7 by omega) with rfl | rfl | rfl
        · show u6.2.2 (ar b 5) s = _; rw [F6.2.2 _ (by unfold ar; omega), e5, if_pos (by omega), F4.2.2 (mc g) (by unfold ar mc; omega), F3.2.2 (mc g) (by unfold ar mc; omega), F2.2.2 (mc g) (by unfold ar mc; omega), F1.2.2 (mc g) (by unfold ar mc; omega), Nat.sub_zero]; exact (r4 s (by omega)).1
        · show u6.2.2 (ar b 6) s = _; rw [F6.2.2 _ (by unfold ar; omega), F5.2.2 _ (by unfold ar; omega), F4.2.2 _ (by unfold ar; omega), F3.2.2 _ (by unfold ar; omega), F2.2.2 _ (by unfold ar; omega), F1.2.2 _ (by unfold ar; omega)]; exact (hC.2.2.2.2.2.2.2 6 s (by decide) (by decide) hs).trans (s4 s hs)
        · show u6.2.2 (ar b 7) s = _; rw [e6, if_pos (by omega), F5.2.2 (mc g) (by unfold ar mc; omega), F4.2.2 (mc g) (by unfold ar mc; omega), F3.2.2 (mc g) (by unfold ar mc; omega), F2.2.2 (mc g) (by unfold ar mc; omega), F1.2.2 (mc g) (by unfold ar mc; omega), Nat.sub_zero]; exact (r4 s (by omega)).2
      · exact (((F1.fr (by decide)).tr ((F2.fr (by decide)).tr ((F3.fr (by decide)).tr ((F4.fr (by decide)).tr ((F5.fr (by decide)).tr (F6.fr (by decide))))))).tr (Fr.oI (by decide))).tr (Fr.oI (by decide))
    · have hd : E.1.2.2.2 = 1 := by rw [← (show u6.2.2 (mc g) (a + 28) = E.1.2.2.2 by rw [F6.2.2 (mc g) (by unfold ar mc; omega), F5.2.2 (mc g) (by unfold ar mc; omega), F4.2.2 (mc g) (by unfold ar mc; omega), F3.2.2 (mc g) (by unfold ar mc; omega), F2.2.2 (mc g) (by unfold ar mc; omega), F1.2.2 (mc g) (by unfold ar mc; omega)]; exact r2)]; exact h123
      refine v_iconst (v := 1) 127 dX0_load_126 rfl ki_1 ?_
      refine v_goto 131 dX0_load_127 rfl ?_
      refine vs_X0_51 hb rfl 134 dX0_load_131 rfl (Or.inr rfl) ?_
      refine la_4_2 135 dX0_load_134 rfl ?_
      refine la_4_0 136 dX0_load_135 rfl ?_
      refine vg_X0_17 hg rfl 139 dX0_load_136 rfl ?_
      refine li_4_3 140 dX0_load_139 rfl ?_
      refine v_bipush (v := 29) 142 dX0_load_140 rfl kb_29 ?_
      refine v_iadd 143 dX0_load_142 rfl ?_
      rw [show nI a + 29 = nI (a + 29) from nI_add a 29]
      refine vl_X0_cells hg (a + 29) 144 dX0_load_143 rfl rfl (by omega) ?_
      refine vs_X0_55 hb rfl 147 dX0_load_144 rfl ?_
      refine v_vret dX0_load_147 rfl ?_
      refine hQ _ ⟨?_, ?_, ?_, ?_, by omega, by omega, fun j s hj hs => ?_, fun j s hj hj2 hs => ?_⟩ ?_
      · rw [pn_sI, if_neg (by decide), pn_sI, if_neg (by decide)]; show u6.1 (pj b 0) = _; rw [F6.1, F5.1, F4.1, F3.1, F2.1, F1.1]; exact hC.1.trans (by rw [s1])
      · rw [pn_sI, if_neg (by decide), pn_sI, if_neg (by decide)]; show u6.1 (pj b 1) = _; rw [F6.1, F5.1, F4.1, F3.1, F2.1, F1.1]; exact hC.2.1.trans (by rw [s2])
      · rw [pn_sI, if_pos rfl]; show u6.2.2 (mc g) (a + 29) = _; rw [F6.2.2 (mc g) (by unfold ar mc; omega), F5.2.2 (mc g) (by unfold ar mc; omega), F4.2.2 (mc g) (by unfold ar mc; omega), F3.2.2 (mc g) (by unfold ar mc; omega), F2.2.2 (mc g) (by unfold ar mc; omega), F1.2.2 (mc g) (by unfold ar mc; omega)]; exact r1
      · rw [pn_sI, if_neg (by decide), pn_sI, if_pos rfl]; exact hd.symm
      · rw [← s1] at hs
        rcases (show j = 0 ∨ j = 1 ∨ j = 2 ∨ j = 3 ∨ j = 4 by omega) with rfl | rfl | rfl | rfl | rfl
        · show u6.2.2 (ar b 0) s = _; rw [F6.2.2 _ (by unfold ar; omega), F5.2.2 _ (by unfold ar; omega), F4.2.2 _ (by unfold ar; omega), F3.2.2 _ (by unfold ar; omega), F2.2.2 _ (by unfold ar; omega), e1, if_pos (by omega), Nat.sub_zero]; exact (r3 s (by omega)).1
        · show u6.2.2 (ar b 1) s = _; rw [F6.2.2 _ (by unfold ar; omega), F5.2.2 _ (by unfold ar; omega), F4.2.2 _ (by unfold ar; omega), F3.2.2 _ (by unfold ar; omega), e2, if_pos (by omega), F1.2.2 (mc g) (by unfold ar mc; omega), Nat.sub_zero]; exact (r3 s (by omega)).2.1
        · show u6.2.2 (ar b 2) s = _; rw [F6.2.2 _ (by unfold ar; omega), F5.2.2 _ (by unfold ar; omega), F4.2.2 _ (by unfold ar; omega), F3.2.2 _ (by unfold ar; omega), F2.2.2 _ (by unfold ar; omega), F1.2.2 _ (by unfold ar; omega)]; exact (hC.2.2.2.2.2.2.1 2 s (by decide) hs).trans (s3 s hs)
        · show u6.2.2 (ar b 3) s = _; rw [F6.2.2 _ (by unfold ar; omega), F5.2.2 _ (by unfold ar; omega), F4.2.2 _ (by unfold ar; omega), e3, if_pos (by omega), F2.2.2 (mc g) (by unfold ar mc; omega), F1.2.2 (mc g) (by unfold ar mc; omega), Nat.sub_zero]; exact (r3 s (by omega)).2.2.1
        · show u6.2.2 (ar b 4) s = _; rw [F6.2.2 _ (by unfold ar; omega), F5.2.2 _ (by unfold ar; omega), e4, if_pos (by omega), F3.2.2 (mc g) (by unfold ar mc; omega), F2.2.2 (mc g) (by unfold ar mc; omega), F1.2.2 (mc g) (by unfold ar mc; omega), Nat.sub_zero]; exact (r3 s (by omega)).2.2.2
      · rw [← s2] at hs
        rcases (show j = 5 ∨ j = 6 ∨ j = 7 by omega) with rfl | rfl | rfl
        · show u6.2.2 (ar b 5) s = _; rw [F6.2.2 _ (by unfold ar; omega), e5, if_pos (by omega), F4.2.2 (mc g) (by unfold ar mc; omega), F3.2.2 (mc g) (by unfold ar mc; omega), F2.2.2 (mc g) (by unfold ar mc; omega), F1.2.2 (mc g) (by unfold ar mc; omega), Nat.sub_zero]; exact (r4 s (by omega)).1
        · show u6.2.2 (ar b 6) s = _; rw [F6.2.2 _ (by unfold ar; omega), F5.2.2 _ (by unfold ar; omega), F4.2.2 _ (by unfold ar; omega), F3.2.2 _ (by unfold ar; omega), F2.2.2 _ (by unfold ar; omega), F1.2.2 _ (by unfold ar; omega)]; exact (hC.2.2.2.2.2.2.2 6 s (by decide) (by decide) hs).trans (s4 s hs)
        · show u6.2.2 (ar b 7) s = _; rw [e6, if_pos (by omega), F5.2.2 (mc g) (by unfold ar mc; omega), F4.2.2 (mc g) (by unfold ar mc; omega), F3.2.2 (mc g) (by unfold ar mc; omega), F2.2.2 (mc g) (by unfold ar mc; omega), F1.2.2 (mc g) (by unfold ar mc; omega), Nat.sub_zero]; exact (r4 s (by omega)).2
      · exact (((F1.fr (by decide)).tr ((F2.fr (by decide)).tr ((F3.fr (by decide)).tr ((F4.fr (by decide)).tr ((F5.fr (by decide)).tr (F6.fr (by decide))))))).tr (Fr.oI (by decide))).tr (Fr.oI (by decide))
  · exact absurd h5 (by decide)
set_option maxHeartbeats 4000000 in
set_option maxRecDepth 100000 in
theorem c_X0_forgetFirst {w : Wd} {Q : Option Value → Wd → Prop} (hQ : ∀ u, (∀ i, i < 390 → u.2.2 (mc 0) i = w.2.2 (mc 0) (30 + i)) → FrA (mc 0) w u → Q none u) : V mX0_forgetFirst 0 [some (.ref (mr 0))] [] w Q := by
  refine la_1_0 1 dX0_forgetFirst_0 rfl ?_
  refine vg_X0_17 hb0 rfl 4 dX0_forgetFirst_1 rfl ?_
  refine v_alen (v := nI 420) 5 dX0_forgetFirst_4 rfl (saX0_cells hb0) rfl ?_
  refine v_bipush (v := 30) 7 dX0_forgetFirst_5 rfl kb_30 ?_
  refine v_icmp_lt 32 10 dX0_forgetFirst_7 rfl rfl (fun h7 => ?_) (fun h7 => ?_)
  · exact absurd h7 (by decide)
  · refine la_1_0 11 dX0_forgetFirst_10 rfl ?_
    refine vg_X0_17 hb0 rfl 14 dX0_forgetFirst_11 rfl ?_
    refine v_bipush (v := 30) 16 dX0_forgetFirst_14 rfl kb_30 ?_
    refine la_1_0 17 dX0_forgetFirst_16 rfl ?_
    refine vg_X0_17 hb0 rfl 20 dX0_forgetFirst_17 rfl ?_
    refine v_iconst (v := 0) 21 dX0_forgetFirst_20 rfl ki_0 ?_
    refine la_1_0 22 dX0_forgetFirst_21 rfl ?_
    refine vg_X0_17 hb0 rfl 25 dX0_forgetFirst_22 rfl ?_
    refine v_alen (v := nI 420) 26 dX0_forgetFirst_25 rfl (saX0_cells hb0) rfl ?_
    refine v_bipush (v := 30) 28 dX0_forgetFirst_26 rfl kb_30 ?_
    refine v_isub 29 dX0_forgetFirst_28 rfl ?_
    rw [show nI 420 - 30 = nI 390 from by decide]
    refine v_copyR 30 0 390 32 dX0_forgetFirst_29 rfl ml_X0_30 (saX0_cells hb0) (saX0_cells hb0) (fun f kI kZ => suX0_cells hb0 kI kZ) (by decide) (by decide) (by decide) (by decide) (by decide) (by decide) (Nat.le_of_ble_eq_true rfl) (fun u1 e1 F1 => ?_)
    refine v_vret dX0_forgetFirst_32 rfl ?_
    exact hQ _ (fun i hi => by rw [e1, if_pos (by omega), Nat.sub_zero]) F1
set_option maxHeartbeats 4000000 in
set_option maxRecDepth 100000 in
theorem c_X1_copyFrom {b : Nat} (hb : b < 2) {b2 : Nat} (hb2 : b2 < 2) (hne : ¬ b = b2) {w : Wd} {P : PT} (hC : isC w b2 P) (hz : P.1.2.2.2 = 0 ∨ P.1.2.2.2 = 1) {Q : Option Value → Wd → Prop} (hQ : ∀ u, isC u b P → Fr b w u → Q none u) : V mX1_copyFrom 0 [some (.ref (pr b)), some (.ref (pr b2))] [] w Q := by
  have h5 := hC.2.2.2.2.1
  have h4 := hC.2.2.2.2.2.1
  refine la_2_0 1 dX1_copyFrom_0 rfl ?_
  refine la_2_1 2 dX1_copyFrom_1 rfl ?_
  refine vgq_X1_36 hb2 hC rfl 5 dX1_copyFrom_2 rfl ?_
  refine vs_X1_36 hb rfl 8 dX1_copyFrom_5 rfl ?_
  refine la_2_0 9 dX1_copyFrom_8 rfl ?_
  refine la_2_1 10 dX1_copyFrom_9 rfl ?_
  refine vgq_X1_40 hb2 (hC.oI hne (by decide)) rfl 13 dX1_copyFrom_10 rfl ?_
  refine vs_X1_40 hb rfl 16 dX1_copyFrom_13 rfl ?_
  refine la_2_0 17 dX1_copyFrom_16 rfl ?_
  refine la_2_1 18 dX1_copyFrom_17 rfl ?_
  refine vgq_X1_43 hb2 ((hC.oI hne (by decide)).oI hne (by decide)) rfl 21 dX1_copyFrom_18 rfl ?_
  refine vs_X1_43 hb rfl 24 dX1_copyFrom_21 rfl ?_
  refine la_2_0 25 dX1_copyFrom_24 rfl ?_
  refine la_2_1 26 dX1_copyFrom_25 rfl ?_
  refine vgq_X1_46 hb2 (((hC.oI hne (by decide)).oI hne (by decide)).oI hne (by decide)) rfl 29 dX1_copyFrom_26 rfl ?_
  refine vs_X1_46 hb rfl 32 dX1_copyFrom_29 rfl hz ?_
  refine la_2_1 33 dX1_copyFrom_32 rfl ?_
  refine vg_X1_9 hb2 rfl 36 dX1_copyFrom_33 rfl ?_
  refine v_iconst (v := 0) 37 dX1_copyFrom_36 rfl ki_0 ?_
  refine la_2_0 38 dX1_copyFrom_37 rfl ?_
  refine vg_X1_9 hb rfl 41 dX1_copyFrom_38 rfl ?_
  refine v_iconst (v := 0) 42 dX1_copyFrom_41 rfl ki_0 ?_
  refine v_iconst (v := 5) 43 dX1_copyFrom_42 rfl ki_5 ?_
  refine v_copyR 0 0 5 46 dX1_copyFrom_43 rfl ml_X1_56 (saX1_age hb2) (saX1_age hb) (fun f kI kZ => suX1_age hb kI kZ) (by decide) (by decide) (by decide) (by decide) (by decide) (by decide) (Nat.le_of_ble_eq_true rfl) (fun u1 e1 F1 => ?_)
  refine la_2_1 47 dX1_copyFrom_46 rfl ?_
  refine vg_X1_15 hb2 rfl 50 dX1_copyFrom_47 rfl ?_
  refine v_iconst (v := 0) 51 dX1_copyFrom_50 rfl ki_0 ?_
  refine la_2_0 52 dX1_copyFrom_51 rfl ?_
  refine vg_X1_15 hb rfl 55 dX1_copyFrom_52 rfl ?_
  refine v_iconst (v := 0) 56 dX1_copyFrom_55 rfl ki_0 ?_
  refine v_iconst (v := 5) 57 dX1_copyFrom_56 rfl ki_5 ?_
  refine v_copyR 0 0 5 60 dX1_copyFrom_57 rfl ml_X1_56 (saX1_health hb2) (saX1_health hb) (fun f kI kZ => suX1_health hb kI kZ) (by decide) (by decide) (by decide) (by decide) (by decide) (by decide) (Nat.le_of_ble_eq_true rfl) (fun u2 e2 F2 => ?_)
  refine la_2_1 61 dX1_copyFrom_60 rfl ?_
  refine vg_X1_18 hb2 rfl 64 dX1_copyFrom_61 rfl ?_
  refine v_iconst (v := 0) 65 dX1_copyFrom_64 rfl ki_0 ?_
  refine la_2_0 66 dX1_copyFrom_65 rfl ?_
  refine vg_X1_18 hb rfl 69 dX1_copyFrom_66 rfl ?_
  refine v_iconst (v := 0) 70 dX1_copyFrom_69 rfl ki_0 ?_
  refine v_iconst (v := 5) 71 dX1_copyFrom_70 rfl ki_5 ?_
  refine v_copyR 0 0 5 74 dX1_copyFrom_71 rfl ml_X1_56 (saX1_kind hb2) (saX1_kind hb) (fun f kI kZ => suX1_kind hb kI kZ) (by decide) (by decide) (by decide) (by decide) (by decide) (by decide) (Nat.le_of_ble_eq_true rfl) (fun u3 e3 F3 => ?_)
  refine la_2_1 75 dX1_copyFrom_74 rfl ?_
  refine vg_X1_21 hb2 rfl 78 dX1_copyFrom_75 rfl ?_
  refine v_iconst (v := 0) 79 dX1_copyFrom_78 rfl ki_0 ?_
  refine la_2_0 80 dX1_copyFrom_79 rfl ?_
  refine vg_X1_21 hb rfl 83 dX1_copyFrom_80 rfl ?_
  refine v_iconst (v := 0) 84 dX1_copyFrom_83 rfl ki_0 ?_
  refine v_iconst (v := 5) 85 dX1_copyFrom_84 rfl ki_5 ?_
  refine v_copyR 0 0 5 88 dX1_copyFrom_85 rfl ml_X1_56 (saX1_joined hb2) (saX1_joined hb) (fun f kI kZ => suX1_joined hb kI kZ) (by decide) (by decide) (by decide) (by decide) (by decide) (by decide) (Nat.le_of_ble_eq_true rfl) (fun u4 e4 F4 => ?_)
  refine la_2_1 89 dX1_copyFrom_88 rfl ?_
  refine vg_X1_24 hb2 rfl 92 dX1_copyFrom_89 rfl ?_
  refine v_iconst (v := 0) 93 dX1_copyFrom_92 rfl ki_0 ?_
  refine la_2_0 94 dX1_copyFrom_93 rfl ?_
  refine vg_X1_24 hb rfl 97 dX1_copyFrom_94 rfl ?_
  refine v_iconst (v := 0) 98 dX1_copyFrom_97 rfl ki_0 ?_
  refine v_iconst (v := 5) 99 dX1_copyFrom_98 rfl ki_5 ?_
  refine v_copyR 0 0 5 102 dX1_copyFrom_99 rfl ml_X1_56 (saX1_on hb2) (saX1_on hb) (fun f kI kZ => suX1_on hb kI kZ) (by decide) (by decide) (by decide) (by decide) (by decide) (by decide) (Nat.le_of_ble_eq_true rfl) (fun u5 e5 F5 => ?_)
  refine la_2_1 103 dX1_copyFrom_102 rfl ?_
  refine vg_X1_27 hb2 rfl 106 dX1_copyFrom_103 rfl ?_
  refine v_iconst (v := 0) 107 dX1_copyFrom_106 rfl ki_0 ?_
  refine la_2_0 108 dX1_copyFrom_107 rfl ?_
  refine vg_X1_27 hb rfl 111 dX1_copyFrom_108 rfl ?_
  refine v_iconst (v := 0) 112 dX1_copyFrom_111 rfl ki_0 ?_
  refine v_iconst (v := 4) 113 dX1_copyFrom_112 rfl ki_4 ?_
  refine v_copyR 0 0 4 116 dX1_copyFrom_113 rfl ml_X1_56 (saX1_left hb2) (saX1_left hb) (fun f kI kZ => suX1_left hb kI kZ) (by decide) (by decide) (by decide) (by decide) (by decide) (by decide) (Nat.le_of_ble_eq_true rfl) (fun u6 e6 F6 => ?_)
  refine la_2_1 117 dX1_copyFrom_116 rfl ?_
  refine vg_X1_30 hb2 rfl 120 dX1_copyFrom_117 rfl ?_
  refine v_iconst (v := 0) 121 dX1_copyFrom_120 rfl ki_0 ?_
  refine la_2_0 122 dX1_copyFrom_121 rfl ?_
  refine vg_X1_30 hb rfl 125 dX1_copyFrom_122 rfl ?_
  refine v_iconst (v := 0) 126 dX1_copyFrom_125 rfl ki_0 ?_
  refine v_iconst (v := 4) 127 dX1_copyFrom_126 rfl ki_4 ?_
  refine v_copyR 0 0 4 130 dX1_copyFrom_127 rfl ml_X1_56 (saX1_cost hb2) (saX1_cost hb) (fun f kI kZ => suX1_cost hb kI kZ) (by decide) (by decide) (by decide) (by decide) (by decide) (by decide) (Nat.le_of_ble_eq_true rfl) (fun u7 e7 F7 => ?_)
  refine la_2_1 131 dX1_copyFrom_130 rfl ?_
  refine vg_X1_33 hb2 rfl 134 dX1_copyFrom_131 rfl ?_
  refine v_iconst (v := 0) 135 dX1_copyFrom_134 rfl ki_0 ?_
  refine la_2_0 136 dX1_copyFrom_135 rfl ?_
  refine vg_X1_33 hb rfl 139 dX1_copyFrom_136 rfl ?_
  refine v_iconst (v := 0) 140 dX1_copyFrom_139 rfl ki_0 ?_
  refine v_iconst (v := 4) 141 dX1_copyFrom_140 rfl ki_4 ?_
  refine v_copyR 0 0 4 144 dX1_copyFrom_141 rfl ml_X1_56 (saX1_fate hb2) (saX1_fate hb) (fun f kI kZ => suX1_fate hb kI kZ) (by decide) (by decide) (by decide) (by decide) (by decide) (by decide) (Nat.le_of_ble_eq_true rfl) (fun u8 e8 F8 => ?_)
  refine v_vret dX1_copyFrom_144 rfl ?_
  refine hQ _ ⟨?_, ?_, ?_, ?_, h5, h4, fun j s hj hs => ?_, fun j s hj hj2 hs => ?_⟩ ?_
  · show u8.1 (pj b 0) = _; rw [F8.1, F7.1, F6.1, F5.1, F4.1, F3.1, F2.1, F1.1]; show pn _ b 0 = _; simp only [pn_sI]; rfl
  · show u8.1 (pj b 1) = _; rw [F8.1, F7.1, F6.1, F5.1, F4.1, F3.1, F2.1, F1.1]; show pn _ b 1 = _; simp only [pn_sI]; rfl
  · show u8.1 (pj b 2) = _; rw [F8.1, F7.1, F6.1, F5.1, F4.1, F3.1, F2.1, F1.1]; show pn _ b 2 = _; simp only [pn_sI]; rfl
  · show u8.1 (pj b 3) = _; rw [F8.1, F7.1, F6.1, F5.1, F4.1, F3.1, F2.1, F1.1]; show pn _ b 3 = _; simp only [pn_sI]; rfl
  · rcases (show j = 0 ∨ j = 1 ∨ j = 2 ∨ j = 3 ∨ j = 4 by omega) with rfl | rfl | rfl | rfl | rfl
    · show u8.2.2 (ar b 0) s = _; rw [F8.2.2 _ (by unfold ar; omega), F7.2.2 _ (by unfold ar; omega), F6.2.2 _ (by unfold ar; omega), F5.2.2 _ (by unfold ar; omega), F4.2.2 _ (by unfold ar; omega), F3.2.2 _ (by unfold ar; omega), F2.2.2 _ (by unfold ar; omega), e1, if_pos (by omega), Nat.sub_zero, Nat.zero_add]; exact ((((hC.oI hne (by decide)).oI hne (by decide)).oI hne (by decide)).oI hne (by decide)).2.2.2.2.2.2.1 0 s (by decide) hs
    · show u8.2.2 (ar b 1) s = _; rw [F8.2.2 _ (by unfold ar; omega), F7.2.2 _ (by unfold ar; omega), F6.2.2 _ (by unfold ar; omega), F5.2.2 _ (by unfold ar; omega), F4.2.2 _ (by unfold ar; omega), F3.2.2 _ (by unfold ar; omega), e2, if_pos (by omega), Nat.sub_zero, Nat.zero_add]; exact (((((hC.oI hne (by decide)).oI hne (by decide)).oI hne (by decide)).oI hne (by decide)).oF hne hb2 F1 (by decide)).2.2.2.2.2.2.1 1 s (by decide) hs
    · show u8.2.2 (ar b 2) s = _; rw [F8.2.2 _ (by unfold ar; omega), F7.2.2 _ (by unfold ar; omega), F6.2.2 _ (by unfold ar; omega), F5.2.2 _ (by unfold ar; omega), F4.2.2 _ (by unfold ar; omega), e3, if_pos (by omega), Nat.sub_zero, Nat.zero_add]; exact ((((((hC.oI hne (by decide)).oI hne (by decide)).oI hne (by decide)).oI hne (by decide)).oF hne hb2 F1 (by decide)).oF hne hb2 F2 (by decide)).2.2.2.2.2.2.1 2 s (by decide) hs
    · show u8.2.2 (ar b 3) s = _; rw [F8.2.2 _ (by unfold ar; omega), F7.2.2 _ (by unfold ar; omega), F6.2.2 _ (by unfold ar; omega), F5.2.2 _ (by unfold ar; omega), e4, if_pos (by omega), Nat.sub_zero, Nat.zero_add]; exact (((((((hC.oI hne (by decide)).oI hne (by decide)).oI hne (by decide)).oI hne (by decide)).oF hne hb2 F1 (by decide)).oF hne hb2 F2 (by decide)).oF hne hb2 F3 (by decide)).2.2.2.2.2.2.1 3 s (by decide) hs
    · show u8.2.2 (ar b 4) s = _; rw [F8.2.2 _ (by unfold ar; omega), F7.2.2 _ (by unfold ar; omega), F6.2.2 _ (by unfold ar; omega), e5, if_pos (by omega), Nat.sub_zero, Nat.zero_add]; exact ((((((((hC.oI hne (by decide)).oI hne (by decide)).oI hne (by decide)).oI hne (by decide)).oF hne hb2 F1 (by decide)).oF hne hb2 F2 (by decide)).oF hne hb2 F3 (by decide)).oF hne hb2 F4 (by decide)).2.2.2.2.2.2.1 4 s (by decide) hs
  · rcases (show j = 5 ∨ j = 6 ∨ j = 7 by omega) with rfl | rfl | rfl
    · show u8.2.2 (ar b 5) s = _; rw [F8.2.2 _ (by unfold ar; omega), F7.2.2 _ (by unfold ar; omega), e6, if_pos (by omega), Nat.sub_zero, Nat.zero_add]; exact (((((((((hC.oI hne (by decide)).oI hne (by decide)).oI hne (by decide)).oI hne (by decide)).oF hne hb2 F1 (by decide)).oF hne hb2 F2 (by decide)).oF hne hb2 F3 (by decide)).oF hne hb2 F4 (by decide)).oF hne hb2 F5 (by decide)).2.2.2.2.2.2.2 5 s (by decide) (by decide) hs
    · show u8.2.2 (ar b 6) s = _; rw [F8.2.2 _ (by unfold ar; omega), e7, if_pos (by omega), Nat.sub_zero, Nat.zero_add]; exact ((((((((((hC.oI hne (by decide)).oI hne (by decide)).oI hne (by decide)).oI hne (by decide)).oF hne hb2 F1 (by decide)).oF hne hb2 F2 (by decide)).oF hne hb2 F3 (by decide)).oF hne hb2 F4 (by decide)).oF hne hb2 F5 (by decide)).oF hne hb2 F6 (by decide)).2.2.2.2.2.2.2 6 s (by decide) (by decide) hs
    · show u8.2.2 (ar b 7) s = _; rw [e8, if_pos (by omega), Nat.sub_zero, Nat.zero_add]; exact (((((((((((hC.oI hne (by decide)).oI hne (by decide)).oI hne (by decide)).oI hne (by decide)).oF hne hb2 F1 (by decide)).oF hne hb2 F2 (by decide)).oF hne hb2 F3 (by decide)).oF hne hb2 F4 (by decide)).oF hne hb2 F5 (by decide)).oF hne hb2 F6 (by decide)).oF hne hb2 F7 (by decide)).2.2.2.2.2.2.2 7 s (by decide) (by decide) hs
  · exact ((((Fr.oI (by decide)).tr (Fr.oI (by decide))).tr (Fr.oI (by decide))).tr (Fr.oI (by decide))).tr ((F1.fr (by decide)).tr ((F2.fr (by decide)).tr ((F3.fr (by decide)).tr ((F4.fr (by decide)).tr ((F5.fr (by decide)).tr ((F6.fr (by decide)).tr ((F7.fr (by decide)).tr (F8.fr (by decide)))))))))

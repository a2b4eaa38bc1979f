theorem damp_eq {d : Int32} (h : d = 0 ∨ d = 1) : 1 + d = if d = 0 then 1 else 2 := by rcases h with rfl | rfl <;> decide
theorem carM_s {P : PT} {i : Nat} {f : Int32} (h : P.2 7 i = 1) (hf : f = (if 0 < P.2 5 i - 1 then 1 else if ¬ stuckP P (nI i) &&& aliveP P = 0 then 2 else 3)) : PEq (setP (setP (carI P i) 5 i ((carI P i).2 5 i - 1)) 7 i f) (carI P (i + 1)) := by
  have e : ∀ j s, (setP (setP (carI P i) 5 i ((carI P i).2 5 i - 1)) 7 i f).2 j s = (carI P (i + 1)).2 j s := by
    intro j s
    rw [carI_at]
    by_cases hs : s = i
    · subst hs
      simp only [setP, carI]
      by_cases j7 : j = 7
      · subst j7; simp [h, hf]
      · by_cases j5 : j = 5
        · subst j5; simp [h]
        · simp [j5, j7]
    · have hh : (s < i + 1) ↔ s < i := by omega
      simp [setP, carI, hs, hh]
  exact ⟨rfl, fun j s _ _ => e j s, fun j s _ _ _ => e j s⟩
theorem car_f1 {P : PT} {i : Nat} (g : 0 < P.2 5 i - 1) : (1 : Int32) = (if 0 < P.2 5 i - 1 then 1 else if ¬ stuckP P (nI i) &&& aliveP P = 0 then 2 else 3) := by rw [if_pos g]
theorem car_f2 {P : PT} {i : Nat} (g : ¬ 0 < P.2 5 i - 1) (h : ¬ stuckP P (nI i) &&& aliveP P = 0) : (2 : Int32) = (if 0 < P.2 5 i - 1 then 1 else if ¬ stuckP P (nI i) &&& aliveP P = 0 then 2 else 3) := by rw [if_neg g, if_pos h]
theorem car_f3 {P : PT} {i : Nat} (g : ¬ 0 < P.2 5 i - 1) (h : stuckP P (nI i) &&& aliveP P = 0) : (3 : Int32) = (if 0 < P.2 5 i - 1 then 1 else if ¬ stuckP P (nI i) &&& aliveP P = 0 then 2 else 3) := by rw [if_neg g, if_neg (fun q => q h)]
set_option maxHeartbeats 4000000 in
set_option maxRecDepth 100000 in
theorem c_X4_passOn {l : Nat} {w : Wd} {P : PT} (hM : isM w l P) (hl : l < 2) (hz : P.1.2.2.2 = 0 ∨ P.1.2.2.2 = 1) {Q : Option Value → Wd → Prop} (hQ : ∀ u, isM u l (passP P) → FrM l w u → Q none u) : V mX4_passOn 0 [some (.ref 1), some (.int (nI l)), none, none, none, none] [] w Q := by
  have b5 := hM.2.2.1
  have b4 := hM.2.2.2.1
  have key : ∀ i, i ≤ P.1.2.1 → ∀ u, isM u l (carI (grR P) i) → FrM l w u → V mX4_passOn 46 [some (.ref 1), some (.int (nI l)), some (.int (nI (30 * l))), some (.int (aliveP (grR P))), some (.int (nI i)), none] [] u Q := by
    refine up (P := fun i => ∀ u, isM u l (carI (grR P) i) → FrM l w u → V mX4_passOn 46 [some (.ref 1), some (.int (nI l)), some (.int (nI (30 * l))), some (.int (aliveP (grR P))), some (.int (nI i)), none] [] u Q) (fun i hi ih => ?_)
    intro u hM0 hF0
    refine li_6_4 48 dX4_passOn_46 rfl ?_
    refine la_6_0 49 dX4_passOn_48 rfl ?_
    refine vgm_letters hM0 hl rfl 52 dX4_passOn_49 rfl ?_
    refine v_icmp_ge 153 55 dX4_passOn_52 rfl rfl (fun h52 => ?_) (fun h52 => ?_)
    · have h52 : nI P.1.2.1 ≤ nI i := h52
      obtain rfl := ge_eq h52 hi (by omega)
      refine la_6_0 154 dX4_passOn_153 rfl ?_
      refine vg_X4_16 rfl 157 dX4_passOn_154 rfl ?_
      refine li_6_2 158 dX4_passOn_157 rfl ?_
      refine v_bipush (v := 29) 160 dX4_passOn_158 rfl kb_29 ?_
      refine v_iadd 161 dX4_passOn_160 rfl ?_
      refine v_dup2 162 dX4_passOn_161 rfl rfl rfl ?_
      refine vmr_week hM0 hl 163 dX4_passOn_162 rfl (ixF _ 29) ?_
      refine v_iconst (v := 1) 164 dX4_passOn_163 rfl ki_1 ?_
      refine v_iadd 165 dX4_passOn_164 rfl ?_
      refine vmw_week hM0 hl 166 dX4_passOn_165 rfl (ixF _ 29) (fun u1 hM1 hF1 => ?_)
      refine v_vret dX4_passOn_166 rfl ?_
      exact hQ _ hM1 (hF0.tr hF1)
    · have h52 : ¬ nI P.1.2.1 ≤ nI i := h52
      have hlt := ge_lt h52 (by omega) (by omega)
      refine la_6_0 56 dX4_passOn_55 rfl ?_
      refine vg_X4_16 rfl 59 dX4_passOn_56 rfl ?_
      refine li_6_2 60 dX4_passOn_59 rfl ?_
      refine v_bipush (v := 24) 62 dX4_passOn_60 rfl kb_24 ?_
      refine v_iadd 63 dX4_passOn_62 rfl ?_
      refine li_6_4 65 dX4_passOn_63 rfl ?_
      refine v_iadd 66 dX4_passOn_65 rfl ?_
      refine vmn_7 hM0 hl _ 67 dX4_passOn_66 rfl (ixE _ 24 i) hlt ?_
      refine v_iconst (v := 1) 68 dX4_passOn_67 rfl ki_1 ?_
      refine v_icmp_ne 147 71 dX4_passOn_68 rfl rfl (fun h68 => ?_) (fun h68 => ?_)
      · rw [carI_at] at h68
        refine icn_6_4 rfl 150 dX4_passOn_147 rfl rfl ?_
        refine v_goto 46 dX4_passOn_150 rfl ?_
        first
          | exact ih hlt _ (hM0.eq (carI_n h68)) hF0
          | exact ih hlt _ (hM0.eq (carM_s h68 (car_f1 g129))) (hF0.tr FrM.rf)
          | exact ih hlt _ (hM0.eq (carM_s h68 (car_f3 g129 h96))) (hF0.tr FrM.rf)
          | exact ih hlt _ (hM0.eq (carM_s h68 (car_f2 g129 h96))) (hF0.tr FrM.rf)
      · rw [carI_at] at h68
        refine la_6_0 72 dX4_passOn_71 rfl ?_
        refine vg_X4_16 rfl 75 dX4_passOn_72 rfl ?_
        refine li_6_2 76 dX4_passOn_75 rfl ?_
        refine v_bipush (v := 20) 78 dX4_passOn_76 rfl kb_20 ?_
        refine v_iadd 79 dX4_passOn_78 rfl ?_
        refine li_6_4 81 dX4_passOn_79 rfl ?_
        refine v_iadd 82 dX4_passOn_81 rfl ?_
        refine v_dup2 83 dX4_passOn_82 rfl rfl rfl ?_
        refine vmn_5 hM0 hl _ 84 dX4_passOn_83 rfl (ixE _ 20 i) hlt ?_
        refine v_iconst (v := 1) 85 dX4_passOn_84 rfl ki_1 ?_
        refine v_isub 86 dX4_passOn_85 rfl ?_
        refine vmw_5 hM0 hl _ 87 dX4_passOn_86 rfl (ixE _ 20 i) hlt (fun u1 hM1 hF1 => ?_)
        refine la_6_0 88 dX4_passOn_87 rfl ?_
        refine li_6_1 89 dX4_passOn_88 rfl ?_
        refine li_6_4 91 dX4_passOn_89 rfl ?_
        refine v_cVI2 94 dX4_passOn_91 rfl fvX4_onLetter fiX4_onLetter ml_X4_125 (seX4) rfl ⟨(Nat.le_of_ble_eq_true rfl), (Nat.le_of_ble_eq_true rfl)⟩ (Nat.le_of_ble_eq_true rfl) (Nat.le_of_ble_eq_true rfl) (c_X4_onLetter hM1 hl ⟨_, rfl, ?_⟩) rfl
        refine li_6_3 95 dX4_passOn_94 rfl ?_
        refine v_iand 96 dX4_passOn_95 rfl ?_
        refine v_if_eq 103 99 dX4_passOn_96 rfl rfl (fun h96 => ?_) (fun h96 => ?_)
        · rw [stuck_5, car_stuck] at h96
          refine v_iconst (v := 0) 104 dX4_passOn_103 rfl ki_0 ?_
          refine si_6_5 rfl 106 dX4_passOn_104 rfl rfl ?_
          refine la_6_0 107 dX4_passOn_106 rfl ?_
          refine vg_X4_16 rfl 110 dX4_passOn_107 rfl ?_
          refine li_6_2 111 dX4_passOn_110 rfl ?_
          refine v_bipush (v := 24) 113 dX4_passOn_111 rfl kb_24 ?_
          refine v_iadd 114 dX4_passOn_113 rfl ?_
          refine li_6_4 116 dX4_passOn_114 rfl ?_
          refine v_iadd 117 dX4_passOn_116 rfl ?_
          refine la_6_0 118 dX4_passOn_117 rfl ?_
          refine vg_X4_16 rfl 121 dX4_passOn_118 rfl ?_
          refine li_6_2 122 dX4_passOn_121 rfl ?_
          refine v_bipush (v := 20) 124 dX4_passOn_122 rfl kb_20 ?_
          refine v_iadd 125 dX4_passOn_124 rfl ?_
          refine li_6_4 127 dX4_passOn_125 rfl ?_
          refine v_iadd 128 dX4_passOn_127 rfl ?_
          refine vmn_5 hM1 hl _ 129 dX4_passOn_128 rfl (ixE _ 20 i) hlt ?_
          refine v_if_le 136 132 dX4_passOn_129 rfl rfl (fun h129 => ?_) (fun h129 => ?_)
          · have g129 : ¬ 0 < (grR P).2 5 i - 1 := by rw [← carI_at (P := grR P) (i := i) (j := 5)]; exact i_nlt.mpr (by simpa [setP] using h129)
            refine li_6_5 138 dX4_passOn_136 rfl ?_
            refine v_if_eq 145 141 dX4_passOn_138 rfl rfl (fun _ => ?_) (fun h => absurd rfl h)
            refine v_iconst (v := 3) 146 dX4_passOn_145 rfl ki_3 ?_
            refine vmw_7 hM1 hl _ 147 dX4_passOn_146 rfl (ixE _ 24 i) hlt (fun u2 hM2 hF2 => ?_)
            refine icn_6_4 rfl 150 dX4_passOn_147 rfl rfl ?_
            refine v_goto 46 dX4_passOn_150 rfl ?_
            refine fg_6_5 ?_
            first
              | exact ih hlt _ (hM0.eq (carI_n h68)) hF0
              | exact ih hlt _ (hM2.eq (carM_s h68 (car_f1 g129))) (hF0.tr (hF1.tr hF2))
              | exact ih hlt _ (hM2.eq (carM_s h68 (car_f3 g129 h96))) (hF0.tr (hF1.tr hF2))
              | exact ih hlt _ (hM2.eq (carM_s h68 (car_f2 g129 h96))) (hF0.tr (hF1.tr hF2))
          · have g129 : 0 < (grR P).2 5 i - 1 := by rw [← carI_at (P := grR P) (i := i) (j := 5)]; exact i_nle.mp (by simpa [setP] using h129)
            refine v_iconst (v := 1) 133 dX4_passOn_132 rfl ki_1 ?_
            refine v_goto 146 dX4_passOn_133 rfl ?_
            refine vmw_7 hM1 hl _ 147 dX4_passOn_146 rfl (ixE _ 24 i) hlt (fun u2 hM2 hF2 => ?_)
            refine icn_6_4 rfl 150 dX4_passOn_147 rfl rfl ?_
            refine v_goto 46 dX4_passOn_150 rfl ?_
            refine fg_6_5 ?_
            first
              | exact ih hlt _ (hM0.eq (carI_n h68)) hF0
              | exact ih hlt _ (hM2.eq (carM_s h68 (car_f1 g129))) (hF0.tr (hF1.tr hF2))
              | exact ih hlt _ (hM2.eq (carM_s h68 (car_f3 g129 h96))) (hF0.tr (hF1.tr hF2))
              | exact ih hlt _ (hM2.eq (carM_s h68 (car_f2 g129 h96))) (hF0.tr (hF1.tr hF2))
        · rw [stuck_5, car_stuck] at h96
          refine v_iconst (v := 1) 100 dX4_passOn_99 rfl ki_1 ?_
          refine v_goto 104 dX4_passOn_100 rfl ?_
          refine si_6_5 rfl 106 dX4_passOn_104 rfl rfl ?_
          refine la_6_0 107 dX4_passOn_106 rfl ?_
          refine vg_X4_16 rfl 110 dX4_passOn_107 rfl ?_
          refine li_6_2 111 dX4_passOn_110 rfl ?_
          refine v_bipush (v := 24) 113 dX4_passOn_111 rfl kb_24 ?_
          refine v_iadd 114 dX4_passOn_113 rfl ?_
          refine li_6_4 116 dX4_passOn_114 rfl ?_
          refine v_iadd 117 dX4_passOn_116 rfl ?_
          refine la_6_0 118 dX4_passOn_117 rfl ?_
          refine vg_X4_16 rfl 121 dX4_passOn_118 rfl ?_
          refine li_6_2 122 dX4_passOn_121 rfl ?_
          refine v_bipush (v := 20) 124 dX4_passOn_122 rfl kb_20 ?_
          refine v_iadd 125 dX4_passOn_124 rfl ?_
          refine li_6_4 127 dX4_passOn_125 rfl ?_
          refine v_iadd 128 dX4_passOn_127 rfl ?_
          refine vmn_5 hM1 hl _ 129 dX4_passOn_128 rfl (ixE _ 20 i) hlt ?_
          refine v_if_le 136 132 dX4_passOn_129 rfl rfl (fun h129 => ?_) (fun h129 => ?_)
          · have g129 : ¬ 0 < (grR P).2 5 i - 1 := by rw [← carI_at (P := grR P) (i := i) (j := 5)]; exact i_nlt.mpr (by simpa [setP] using h129)
            refine li_6_5 138 dX4_passOn_136 rfl ?_
            refine v_if_eq 145 141 dX4_passOn_138 rfl rfl (fun h => absurd h (by decide)) (fun _ => ?_)
            refine v_iconst (v := 2) 142 dX4_passOn_141 rfl ki_2 ?_
            refine v_goto 146 dX4_passOn_142 rfl ?_
            refine vmw_7 hM1 hl _ 147 dX4_passOn_146 rfl (ixE _ 24 i) hlt (fun u2 hM2 hF2 => ?_)
            refine icn_6_4 rfl 150 dX4_passOn_147 rfl rfl ?_
            refine v_goto 46 dX4_passOn_150 rfl ?_
            refine fg_6_5 ?_
            first
              | exact ih hlt _ (hM0.eq (carI_n h68)) hF0
              | exact ih hlt _ (hM2.eq (carM_s h68 (car_f1 g129))) (hF0.tr (hF1.tr hF2))
              | exact ih hlt _ (hM2.eq (carM_s h68 (car_f3 g129 h96))) (hF0.tr (hF1.tr hF2))
              | exact ih hlt _ (hM2.eq (carM_s h68 (car_f2 g129 h96))) (hF0.tr (hF1.tr hF2))
          · have g129 : 0 < (grR P).2 5 i - 1 := by rw [← carI_at (P := grR P) (i := i) (j := 5)]; exact i_nle.mp (by simpa [setP] using h129)
            refine v_iconst (v := 1) 133 dX4_passOn_132 rfl ki_1 ?_
            refine v_goto 146 dX4_passOn_133 rfl ?_
            refine vmw_7 hM1 hl _ 147 dX4_passOn_146 rfl (ixE _ 24 i) hlt (fun u2 hM2 hF2 => ?_)
            refine icn_6_4 rfl 150 dX4_passOn_147 rfl rfl ?_
            refine v_goto 46 dX4_passOn_150 rfl ?_
            refine fg_6_5 ?_
            first
              | exact ih hlt _ (hM0.eq (carI_n h68)) hF0
              | exact ih hlt _ (hM2.eq (carM_s h68 (car_f1 g129))) (hF0.tr (hF1.tr hF2))
              | exact ih hlt _ (hM2.eq (carM_s h68 (car_f3 g129 h96))) (hF0.tr (hF1.tr hF2))
              | exact ih hlt _ (hM2.eq (carM_s h68 (car_f2 g129 h96))) (hF0.tr (hF1.tr hF2))
  refine v_bipush (v := 30) 2 dX4_passOn_0 rfl kb_30 ?_
  refine li_6_1 3 dX4_passOn_2 rfl ?_
  refine v_imul 4 dX4_passOn_3 rfl ?_
  rw [ix30]
  refine si_6_2 rfl 5 dX4_passOn_4 rfl rfl ?_
  refine la_6_0 6 dX4_passOn_5 rfl ?_
  refine li_6_1 7 dX4_passOn_6 rfl ?_
  refine la_6_0 8 dX4_passOn_7 rfl ?_
  refine li_6_1 9 dX4_passOn_8 rfl ?_
  refine v_cVI1 12 dX4_passOn_9 rfl fvX4_living fiX4_living ml_X4_115 (seX4) rfl ⟨(Nat.le_of_ble_eq_true rfl), (Nat.le_of_ble_eq_true rfl)⟩ (Nat.le_of_ble_eq_true rfl) (Nat.le_of_ble_eq_true rfl) (c_X4_living hM hl ⟨_, rfl, ?_⟩) rfl
  refine v_iconst (v := 1) 13 dX4_passOn_12 rfl ki_1 ?_
  refine la_6_0 14 dX4_passOn_13 rfl ?_
  refine vg_X4_16 rfl 17 dX4_passOn_14 rfl ?_
  refine li_6_2 18 dX4_passOn_17 rfl ?_
  refine v_bipush (v := 28) 20 dX4_passOn_18 rfl kb_28 ?_
  refine v_iadd 21 dX4_passOn_20 rfl ?_
  refine vmr_damp hM hl 22 dX4_passOn_21 rfl (ixF _ 28) ?_
  refine v_iadd 23 dX4_passOn_22 rfl ?_
  rw [damp_eq hz]
  refine v_cVN3 26 dX4_passOn_23 rfl fvX4_age fiX4_age ml_X4_118 (seX4) rfl ⟨(Nat.le_of_ble_eq_true rfl), (Nat.le_of_ble_eq_true rfl)⟩ (Nat.le_of_ble_eq_true rfl) (Nat.le_of_ble_eq_true rfl) (c_X4_age hM hl (fun u1 hM1 hF1 => ⟨rfl, ?_⟩)) rfl
  refine la_6_0 27 dX4_passOn_26 rfl ?_
  refine li_6_1 28 dX4_passOn_27 rfl ?_
  refine la_6_0 29 dX4_passOn_28 rfl ?_
  refine li_6_1 30 dX4_passOn_29 rfl ?_
  refine v_cVI1 33 dX4_passOn_30 rfl fvX4_widows fiX4_widows ml_X4_122 (seX4) rfl ⟨(Nat.le_of_ble_eq_true rfl), (Nat.le_of_ble_eq_true rfl)⟩ (Nat.le_of_ble_eq_true rfl) (Nat.le_of_ble_eq_true rfl) (c_X4_widows hM1 hl ⟨_, rfl, ?_⟩) rfl
  refine v_iconst (v := 2) 34 dX4_passOn_33 rfl ki_2 ?_
  refine v_cVN3 37 dX4_passOn_34 rfl fvX4_age fiX4_age ml_X4_118 (seX4) rfl ⟨(Nat.le_of_ble_eq_true rfl), (Nat.le_of_ble_eq_true rfl)⟩ (Nat.le_of_ble_eq_true rfl) (Nat.le_of_ble_eq_true rfl) (c_X4_age hM1 hl (fun u2 hM2 hF2 => ⟨rfl, ?_⟩)) rfl
  refine la_6_0 38 dX4_passOn_37 rfl ?_
  refine li_6_1 39 dX4_passOn_38 rfl ?_
  refine v_cVI1 42 dX4_passOn_39 rfl fvX4_living fiX4_living ml_X4_115 (seX4) rfl ⟨(Nat.le_of_ble_eq_true rfl), (Nat.le_of_ble_eq_true rfl)⟩ (Nat.le_of_ble_eq_true rfl) (Nat.le_of_ble_eq_true rfl) (c_X4_living hM2 hl ⟨_, rfl, ?_⟩) rfl
  refine si_6_3 rfl 43 dX4_passOn_42 rfl rfl ?_
  refine v_iconst (v := 0) 44 dX4_passOn_43 rfl ki_0 ?_
  refine si_6_4 rfl 46 dX4_passOn_44 rfl rfl ?_
  exact key 0 (Nat.zero_le _) _ (hM2.eq (carI_0 _)) (hF1.tr hF2)
set_option maxHeartbeats 4000000 in
set_option maxRecDepth 100000 in
theorem c_X4_layTrial {w : Wd} {P : PT} (hM : isM w 0 P) {Q : Option Value → Wd → Prop} (hQ : ∀ u, isM u 1 P → FrM 1 w u → Q none u) : V mX4_layTrial 0 [some (.ref 1), none] [] w Q := by
  have key : ∀ i, i ≤ 30 → ∀ u, (∀ j, j < i → u.2.2 33 (30 * 1 + j) = w.2.2 33 (30 * 0 + j)) → FrM 1 w u → V mX4_layTrial 2 [some (.ref 1), some (.int (nI i))] [] u Q := by
    refine up (P := fun i => ∀ u, (∀ j, j < i → u.2.2 33 (30 * 1 + j) = w.2.2 33 (30 * 0 + j)) → FrM 1 w u → V mX4_layTrial 2 [some (.ref 1), some (.int (nI i))] [] u Q) (fun i hi ih => ?_)
    intro u hv hF
    refine li_2_1 3 dX4_layTrial_2 rfl ?_
    refine v_bipush (v := 30) 5 dX4_layTrial_3 rfl kb_30 ?_
    refine v_icmp_ge 29 8 dX4_layTrial_5 rfl rfl (fun h5 => ?_) (fun h5 => ?_)
    · obtain rfl := ge_eq (n := 30) h5 hi (by omega)
      refine v_vret dX4_layTrial_29 rfl ?_
      obtain ⟨h1, h2, h3, h4, h5', h6, h7⟩ := hM
      exact hQ _ ⟨by rw [hF.1]; exact h1, by rw [hF.1]; exact h2, h3, h4, h5'.shift h3 h4 (fun j hj => hv j hj), by rw [hF.2.2.1 31 (by decide)]; exact h6, by rw [hF.2.2.1 32 (by decide)]; exact h7⟩ hF
    · have hlt := ge_lt (n := 30) h5 (by omega) (by omega)
      refine la_2_0 9 dX4_layTrial_8 rfl ?_
      refine vg_X4_16 rfl 12 dX4_layTrial_9 rfl ?_
      refine v_bipush (v := 30) 14 dX4_layTrial_12 rfl kb_30 ?_
      refine li_2_1 15 dX4_layTrial_14 rfl ?_
      refine v_iadd 16 dX4_layTrial_15 rfl ?_
      refine la_2_0 17 dX4_layTrial_16 rfl ?_
      refine vg_X4_16 rfl 20 dX4_layTrial_17 rfl ?_
      refine li_2_1 21 dX4_layTrial_20 rfl ?_
      refine vl_X4_now _ 22 dX4_layTrial_21 rfl rfl (by omega) ?_
      refine vw_X4_now (30 * 1 + i) 23 dX4_layTrial_22 rfl (ixF 30 i) (by omega) ?_
      refine icn_2_1 rfl 26 dX4_layTrial_23 rfl rfl ?_
      refine v_goto 2 dX4_layTrial_26 rfl ?_
      refine ih hlt _ (fun j hj => ?_) (hF.tr (FrM.oA (by omega) (by omega)))
      show upd (u.2.2 33) (30 * 1 + i) (u.2.2 33 i) (30 * 1 + j) = _
      simp only [upd]
      by_cases e : j = i
      · rw [if_pos (by rw [e]), hF.2.2.2 i (by omega), e, Nat.mul_zero, Nat.zero_add]
      · rw [if_neg (by omega)]; exact hv j (by omega)
  refine v_iconst (v := 0) 1 dX4_layTrial_0 rfl ki_0 ?_
  refine si_2_1 rfl 2 dX4_layTrial_1 rfl rfl ?_
  exact key 0 (Nat.zero_le _) w (fun j hj => absurd hj (Nat.not_lt_zero j)) FrM.rf

theorem growI_z {P : PT} {x k : Int32} {i : Nat} (h : ¬ (bit x i = true ∧ ¬ P.2 2 i = 3)) : PEq (setP (growI P x k i) 0 i ((growI P x k i).2 0 i + 0)) (growI P x k (i + 1)) := by
  have e : ∀ j s, (setP (growI P x k i) 0 i ((growI P x k i).2 0 i + 0)).2 j s = (growI P x k (i + 1)).2 j s := by
    intro j s
    simp only [setP, growI, Int32.add_zero]
    by_cases hj : j = 0
    · subst hj
      by_cases hs : s = i
      · subst hs; rw [if_pos ⟨rfl, rfl⟩, if_neg (by omega), if_neg (fun q => h q.2.2)]
      · have : (s < i + 1) ↔ s < i := by omega
        simp [hs, this]
    · simp [hj]
  exact ⟨rfl, fun j s _ _ => e j s, fun j s _ _ _ => e j s⟩
set_option maxHeartbeats 4000000 in
set_option maxRecDepth 100000 in
theorem c_X4_age {l : Nat} {w : Wd} {P : PT} (hM : isM w l P) (hl : l < 2) {x k : Int32} {Q : Option Value → Wd → Prop} (hQ : ∀ u, isM u l (growP P x k) → FrM l w u → Q none u) : V mX4_age 0 [some (.ref 1), some (.int (nI l)), some (.int x), some (.int k), none] [] w Q := by
  have b5 := hM.2.2.1
  have b4 := hM.2.2.2.1
  have key : ∀ i, i ≤ P.1.1 → ∀ u, isM u l (growI P x k i) → FrM l w u → V mX4_age 3 [some (.ref 1), some (.int (nI l)), some (.int x), some (.int k), some (.int (nI i))] [] u Q := by
    refine up (P := fun i => ∀ u, isM u l (growI P x k i) → FrM l w u → V mX4_age 3 [some (.ref 1), some (.int (nI l)), some (.int x), some (.int k), some (.int (nI i))] [] u Q) (fun i hi ih => ?_)
    intro u hM0 hF0
    refine li_5_4 5 dX4_age_3 rfl ?_
    refine la_5_0 6 dX4_age_5 rfl ?_
    refine vgm_stamps hM0 hl rfl 9 dX4_age_6 rfl ?_
    refine v_icmp_ge 58 12 dX4_age_9 rfl rfl (fun h9 => ?_) (fun h9 => ?_)
    · have h9 : nI P.1.1 ≤ nI i := h9
      obtain rfl := ge_eq h9 hi (by omega)
      refine v_vret dX4_age_58 rfl ?_
      exact hQ _ hM0 hF0
    · have h9 : ¬ nI P.1.1 ≤ nI i := h9
      have hlt := ge_lt h9 (by omega) (by omega)
      refine la_5_0 13 dX4_age_12 rfl ?_
      refine vg_X4_16 rfl 16 dX4_age_13 rfl ?_
      refine v_bipush (v := 30) 18 dX4_age_16 rfl kb_30 ?_
      refine li_5_1 19 dX4_age_18 rfl ?_
      refine v_imul 20 dX4_age_19 rfl ?_
      refine li_5_4 22 dX4_age_20 rfl ?_
      refine v_iadd 23 dX4_age_22 rfl ?_
      refine v_dup2 24 dX4_age_23 rfl rfl rfl ?_
      refine vmn_0 hM0 hl _ 25 dX4_age_24 rfl (ixA l i) hlt ?_
      refine li_5_2 26 dX4_age_25 rfl ?_
      refine li_5_4 28 dX4_age_26 rfl ?_
      refine v_cSI2 31 dX4_age_28 rfl fvX4_has fsX4_has ml_X4_71 ⟨(Nat.le_of_ble_eq_true rfl), (Nat.le_of_ble_eq_true rfl)⟩ (Nat.le_of_ble_eq_true rfl) (Nat.le_of_ble_eq_true rfl) (c_X4_has (fun q28 => ⟨_, rfl, ?_⟩) (fun q28 => ⟨_, rfl, ?_⟩)) rfl
      · refine v_if_eq 49 34 dX4_age_31 rfl rfl (fun h => absurd h (by decide)) (fun _ => ?_)
        refine la_5_0 35 dX4_age_34 rfl ?_
        refine vg_X4_7 rfl 38 dX4_age_35 rfl ?_
        refine li_5_4 40 dX4_age_38 rfl ?_
        refine vmn_2 hM0 hl _ 41 dX4_age_40 rfl rfl hlt ?_
        refine v_iconst (v := 3) 42 dX4_age_41 rfl ki_3 ?_
        refine v_icmp_eq 49 45 dX4_age_42 rfl rfl (fun h42 => ?_) (fun h42 => ?_)
        · refine v_iconst (v := 0) 50 dX4_age_49 rfl ki_0 ?_
          refine v_iadd 51 dX4_age_50 rfl ?_
          refine vmw_0 hM0 hl _ 52 dX4_age_51 rfl (ixA l i) hlt (fun u1 hM1 hF1 => ?_)
          refine icn_5_4 rfl 55 dX4_age_52 rfl rfl ?_
          refine v_goto 3 dX4_age_55 rfl ?_
          exact ih hlt _ (hM1.eq (growI_z (fun q => q.2 (by simpa [growI] using h42)))) (hF0.tr hF1)
        · refine li_5_3 46 dX4_age_45 rfl ?_
          refine v_goto 50 dX4_age_46 rfl ?_
          refine v_iadd 51 dX4_age_50 rfl ?_
          refine vmw_0 hM0 hl _ 52 dX4_age_51 rfl (ixA l i) hlt (fun u1 hM1 hF1 => ?_)
          refine icn_5_4 rfl 55 dX4_age_52 rfl rfl ?_
          refine v_goto 3 dX4_age_55 rfl ?_
          exact ih hlt _ (hM1.eq (growI_s q28 (by simpa [growI] using h42))) (hF0.tr hF1)
      · refine v_if_eq 49 34 dX4_age_31 rfl rfl (fun _ => ?_) (fun h => absurd rfl h)
        refine v_iconst (v := 0) 50 dX4_age_49 rfl ki_0 ?_
        refine v_iadd 51 dX4_age_50 rfl ?_
        refine vmw_0 hM0 hl _ 52 dX4_age_51 rfl (ixA l i) hlt (fun u1 hM1 hF1 => ?_)
        refine icn_5_4 rfl 55 dX4_age_52 rfl rfl ?_
        refine v_goto 3 dX4_age_55 rfl ?_
        exact ih hlt _ (hM1.eq (growI_z (fun q => by rw [q28] at q; exact absurd q.1 (by decide)))) (hF0.tr hF1)
  refine v_iconst (v := 0) 1 dX4_age_0 rfl ki_0 ?_
  refine si_5_4 rfl 3 dX4_age_1 rfl rfl ?_
  exact key 0 (Nat.zero_le _) _ (hM.eq (growI_0 P x k)) FrM.rf
theorem hit_eq {h : Int32} (hh : ∃ a, a ≤ 9 ∧ h = nI a) : h - (if 0 < h then 1 else 0) = hitF h := by
  obtain ⟨a, ha, rfl⟩ := hh
  have key : ∀ a, a ≤ 9 → nI a - (if 0 < nI a then 1 else 0) = hitF (nI a) := by decide +kernel
  exact key a ha
theorem ixE (a c s : Nat) : nI a + nI c + nI s = nI (a + c + s) := by rw [nI_add, nI_add]
theorem ixF (a c : Nat) : nI a + nI c = nI (a + c) := nI_add a c
theorem ix30 (l : Nat) : (30 : Int32) * nI l = nI (30 * l) := by rw [show (30 : Int32) = nI 30 from rfl, pk_mul]
set_option maxHeartbeats 4000000 in
set_option maxRecDepth 100000 in
theorem c_X4_stickOn {l : Nat} {w : Wd} {P : PT} (hM : isM w l P) (hl : l < 2) {k : Nat} (hk : k < P.1.1) (hh : ∃ a, a ≤ 9 ∧ P.2 1 k = nI a) {x : Int32} {Q : Option Value → Wd → Prop} (hQ : ∀ u, isM u l (stickP P k x) → FrM l w u → Q none u) : V mX4_stickOn 0 [some (.ref 1), some (.int (nI l)), some (.int (nI k)), some (.int x), none] [] w Q := by
  have b5 := hM.2.2.1
  have b4 := hM.2.2.2.1
  refine v_bipush (v := 30) 2 dX4_stickOn_0 rfl kb_30 ?_
  refine li_5_1 3 dX4_stickOn_2 rfl ?_
  refine v_imul 4 dX4_stickOn_3 rfl ?_
  rw [ix30]
  refine si_5_4 rfl 6 dX4_stickOn_4 rfl rfl ?_
  refine la_5_0 7 dX4_stickOn_6 rfl ?_
  refine vg_X4_16 rfl 10 dX4_stickOn_7 rfl ?_
  refine li_5_4 12 dX4_stickOn_10 rfl ?_
  refine v_bipush (v := 15) 14 dX4_stickOn_12 rfl kb_15 ?_
  refine v_iadd 15 dX4_stickOn_14 rfl ?_
  refine li_5_2 16 dX4_stickOn_15 rfl ?_
  refine v_iadd 17 dX4_stickOn_16 rfl ?_
  refine li_5_3 18 dX4_stickOn_17 rfl ?_
  refine vmw_4 hM hl _ 19 dX4_stickOn_18 rfl (ixE _ 15 k) hk (fun u1 hM1 hF1 => ?_)
  refine la_5_0 20 dX4_stickOn_19 rfl ?_
  refine vg_X4_16 rfl 23 dX4_stickOn_20 rfl ?_
  refine li_5_4 25 dX4_stickOn_23 rfl ?_
  refine v_iconst (v := 5) 26 dX4_stickOn_25 rfl ki_5 ?_
  refine v_iadd 27 dX4_stickOn_26 rfl ?_
  refine li_5_2 28 dX4_stickOn_27 rfl ?_
  refine v_iadd 29 dX4_stickOn_28 rfl ?_
  refine v_dup2 30 dX4_stickOn_29 rfl rfl rfl ?_
  refine vmn_1 hM1 hl _ 31 dX4_stickOn_30 rfl (ixE _ 5 k) hk ?_
  refine la_5_0 32 dX4_stickOn_31 rfl ?_
  refine vg_X4_16 rfl 35 dX4_stickOn_32 rfl ?_
  refine li_5_4 37 dX4_stickOn_35 rfl ?_
  refine v_iconst (v := 5) 38 dX4_stickOn_37 rfl ki_5 ?_
  refine v_iadd 39 dX4_stickOn_38 rfl ?_
  refine li_5_2 40 dX4_stickOn_39 rfl ?_
  refine v_iadd 41 dX4_stickOn_40 rfl ?_
  refine vmn_1 hM1 hl _ 42 dX4_stickOn_41 rfl (ixE _ 5 k) hk ?_
  refine v_if_le 49 45 dX4_stickOn_42 rfl rfl (fun h42 => ?_) (fun h42 => ?_)
  · refine v_iconst (v := 0) 50 dX4_stickOn_49 rfl ki_0 ?_
    refine v_isub 51 dX4_stickOn_50 rfl ?_
    refine vmw_1 hM1 hl _ 52 dX4_stickOn_51 rfl (ixE _ 5 k) hk (fun u2 hM2 hF2 => ?_)
    refine v_vret dX4_stickOn_52 rfl ?_
    have e : (setP P 4 k x).2 1 k - 0 = hitF (P.2 1 k) := by rw [← hit_eq hh, if_neg (i_nlt.mpr (by simpa [setP] using h42))]; simp [setP]
    rw [e] at hM2
    exact hQ _ hM2 (hF1.tr hF2)
  · refine v_iconst (v := 1) 46 dX4_stickOn_45 rfl ki_1 ?_
    refine v_goto 50 dX4_stickOn_46 rfl ?_
    refine v_isub 51 dX4_stickOn_50 rfl ?_
    refine vmw_1 hM1 hl _ 52 dX4_stickOn_51 rfl (ixE _ 5 k) hk (fun u2 hM2 hF2 => ?_)
    refine v_vret dX4_stickOn_52 rfl ?_
    have e : (setP P 4 k x).2 1 k - 1 = hitF (P.2 1 k) := by rw [← hit_eq hh, if_pos (by have := i_nle.mp h42; simpa [setP] using this)]; simp [setP]
    rw [e] at hM2
    exact hQ _ hM2 (hF1.tr hF2)
set_option maxHeartbeats 4000000 in
set_option maxRecDepth 100000 in
theorem c_X4_partOn {l : Nat} {w : Wd} {P : PT} (hM : isM w l P) (hl : l < 2) {k m : Nat} (hk : k < P.1.1) (hm : m < P.1.1) {Q : Option Value → Wd → Prop} (hQ : ∀ u, isM u l (partP P k m) → FrM l w u → Q none u) : V mX4_partOn 0 [some (.ref 1), some (.int (nI l)), some (.int (nI k)), some (.int (nI m)), none] [] w Q := by
  have b5 := hM.2.2.1
  have b4 := hM.2.2.2.1
  refine v_bipush (v := 30) 2 dX4_partOn_0 rfl kb_30 ?_
  refine li_5_1 3 dX4_partOn_2 rfl ?_
  refine v_imul 4 dX4_partOn_3 rfl ?_
  rw [ix30]
  refine si_5_4 rfl 6 dX4_partOn_4 rfl rfl ?_
  refine la_5_0 7 dX4_partOn_6 rfl ?_
  refine vg_X4_16 rfl 10 dX4_partOn_7 rfl ?_
  refine li_5_4 12 dX4_partOn_10 rfl ?_
  refine v_bipush (v := 10) 14 dX4_partOn_12 rfl kb_10 ?_
  refine v_iadd 15 dX4_partOn_14 rfl ?_
  refine li_5_2 16 dX4_partOn_15 rfl ?_
  refine v_iadd 17 dX4_partOn_16 rfl ?_
  refine v_dup2 18 dX4_partOn_17 rfl rfl rfl ?_
  refine vmn_3 hM hl _ 19 dX4_partOn_18 rfl (ixE _ 10 k) hk ?_
  refine v_iconst (v := 1) 20 dX4_partOn_19 rfl ki_1 ?_
  refine li_5_3 21 dX4_partOn_20 rfl ?_
  refine v_ishl 22 dX4_partOn_21 rfl ?_
  refine v_iconst (v := (-1)) 23 dX4_partOn_22 rfl ki_m1 ?_
  refine v_ixor 24 dX4_partOn_23 rfl ?_
  refine v_iand 25 dX4_partOn_24 rfl ?_
  refine vmw_3 hM hl _ 26 dX4_partOn_25 rfl (ixE _ 10 k) hk (fun u1 hM1 hF1 => ?_)
  refine la_5_0 27 dX4_partOn_26 rfl ?_
  refine vg_X4_16 rfl 30 dX4_partOn_27 rfl ?_
  refine li_5_4 32 dX4_partOn_30 rfl ?_
  refine v_bipush (v := 10) 34 dX4_partOn_32 rfl kb_10 ?_
  refine v_iadd 35 dX4_partOn_34 rfl ?_
  refine li_5_3 36 dX4_partOn_35 rfl ?_
  refine v_iadd 37 dX4_partOn_36 rfl ?_
  refine v_dup2 38 dX4_partOn_37 rfl rfl rfl ?_
  refine vmn_3 hM1 hl _ 39 dX4_partOn_38 rfl (ixE _ 10 m) hm ?_
  refine v_iconst (v := 1) 40 dX4_partOn_39 rfl ki_1 ?_
  refine li_5_2 41 dX4_partOn_40 rfl ?_
  refine v_ishl 42 dX4_partOn_41 rfl ?_
  refine v_iconst (v := (-1)) 43 dX4_partOn_42 rfl ki_m1 ?_
  refine v_ixor 44 dX4_partOn_43 rfl ?_
  refine v_iand 45 dX4_partOn_44 rfl ?_
  refine vmw_3 hM1 hl _ 46 dX4_partOn_45 rfl (ixE _ 10 m) hm (fun u2 hM2 hF2 => ?_)
  refine la_5_0 47 dX4_partOn_46 rfl ?_
  refine li_5_1 48 dX4_partOn_47 rfl ?_
  refine v_iconst (v := 1) 49 dX4_partOn_48 rfl ki_1 ?_
  refine li_5_2 50 dX4_partOn_49 rfl ?_
  refine v_ishl 51 dX4_partOn_50 rfl ?_
  refine v_iconst (v := 1) 52 dX4_partOn_51 rfl ki_1 ?_
  refine li_5_3 53 dX4_partOn_52 rfl ?_
  refine v_ishl 54 dX4_partOn_53 rfl ?_
  refine v_ior 55 dX4_partOn_54 rfl ?_
  refine v_iconst (v := 1) 56 dX4_partOn_55 rfl ki_1 ?_
  refine v_cVN3 59 dX4_partOn_56 rfl fvX4_age fiX4_age ml_X4_118 (seX4) rfl ⟨(Nat.le_of_ble_eq_true rfl), (Nat.le_of_ble_eq_true rfl)⟩ (Nat.le_of_ble_eq_true rfl) (Nat.le_of_ble_eq_true rfl) (c_X4_age hM2 hl (fun u3 hM3 hF3 => ⟨rfl, ?_⟩)) rfl
  refine v_vret dX4_partOn_59 rfl ?_
  exact hQ _ hM3 (hF1.tr (hF2.tr hF3))

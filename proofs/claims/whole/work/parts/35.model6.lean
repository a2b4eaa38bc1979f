theorem ones_eq : ∀ q, q < 32 → onI (nI q) 5 = bcF (nI q) := by decide +kernel
theorem sh_pow : ∀ n, n < 31 → (1 : Int32) <<< (nI n &&& 31) = nI (2 ^ n) := by decide +kernel
theorem orB_lt (f : Nat → Bool) : ∀ n, n < 31 → ∃ q, q < 2 ^ n ∧ orB f n = nI q
  | 0, _ => ⟨0, by decide, rfl⟩
  | n + 1, h => by
    obtain ⟨q, hq, e⟩ := orB_lt f n (by omega)
    unfold orB
    by_cases hf : f n = true
    · rw [if_pos hf, e, sh_pow n (by omega), fa_or]
      refine ⟨q ||| 2 ^ n, Nat.or_lt_two_pow (by rw [Nat.pow_succ]; omega) (by rw [Nat.pow_succ]; have := Nat.two_pow_pos n; omega), rfl⟩
    · rw [if_neg hf, e]
      exact ⟨q, by rw [Nat.pow_succ]; omega, by rw [show (0 : Int32) = nI 0 from rfl, fa_or, Nat.or_zero]⟩
theorem orB_32 (f : Nat → Bool) {n : Nat} (h : n ≤ 5) : ∃ q, q < 32 ∧ orB f n = nI q := by
  obtain ⟨q, hq, e⟩ := orB_lt f n (by omega)
  exact ⟨q, Nat.lt_of_lt_of_le hq (Nat.pow_le_pow_right (by decide) h), e⟩
theorem ones_or (f : Nat → Bool) {n : Nat} (h : n ≤ 5) : onI (orB f n) 5 = bcF (orB f n) := by
  obtain ⟨q, hq, e⟩ := orB_32 f h
  rw [e]; exact ones_eq q hq
theorem and_32 {q : Nat} (hq : q < 32) (y : Int32) : ∃ r, r < 32 ∧ nI q &&& y = nI r := by
  obtain ⟨t, ht, rfl⟩ := wb_of32 y
  exact ⟨q &&& t, Nat.lt_of_le_of_lt Nat.and_le_left hq, fa_and q t⟩
theorem part_32 {P : PT} (hJ : ∀ k, k < P.1.1 → ∃ q, q < 32 ∧ P.2 3 k = nI q) {k m : Nat} (hk : k < P.1.1) (hm : m < P.1.1) : ∃ r, r < 32 ∧ (partP P k m).2 3 k = nI r := by
  obtain ⟨q, hq, e⟩ := hJ k hk
  obtain ⟨r, hr, e2⟩ := and_32 hq (1 <<< (nI m &&& 31) ^^^ (-1))
  have e3 : (partP P k m).2 3 k = if k = m then cutF (cutF (P.2 3 k) m) k else cutF (P.2 3 k) m := by
    unfold partP growP growI part1
    simp only [setP]
    by_cases h : k = m
    · subst h; simp
    · simp [h]
  rw [e3]
  have e4 : cutF (P.2 3 k) m = nI r := by unfold cutF; rw [e]; exact e2
  by_cases h : k = m
  · rw [if_pos h, e4]; exact and_32 hr _
  · rw [if_neg h, e4]; exact ⟨r, hr, rfl⟩
set_option maxHeartbeats 4000000 in
set_option maxRecDepth 100000 in
theorem c_X4_stick {w : Wd} {P : PT} {T : TT} {A : AT} {U : Nat → Bool} {K : Nat → PT} {N : NT} {z : Int64} (hS : mS w P T A U K N z) (hh : ∀ k, k < P.1.1 → ∃ a, a ≤ 9 ∧ P.2 1 k = nI a) {i l : Int32} {Q : Option Value → Wd → Prop} (hQ : ∀ u, mS u (stickF P A i l).2.1 T (stickF P A i l).2.2 U K N z → FrK w u → Q (some (.int (stickF P A i l).1)) u) : V mX4_stick 0 [some (.ref 1), some (.int i), some (.int l)] [] w Q := by
  have b5 := hS.1.2.2.1
  have b4 := hS.1.2.2.2.1
  refine la_3_0 1 dX4_stick_0 rfl ?_
  refine li_3_1 2 dX4_stick_1 rfl ?_
  refine v_cVI1 5 dX4_stick_2 rfl fvX4_isStamp fiX4_isStamp ml_X4_128 (seX4) rfl ⟨(Nat.le_of_ble_eq_true rfl), (Nat.le_of_ble_eq_true rfl)⟩ (Nat.le_of_ble_eq_true rfl) (Nat.le_of_ble_eq_true rfl) (c_X4_isStamp hS.1 hb0 (fun q2 => ⟨_, rfl, ?_⟩) (fun q2 => ⟨_, rfl, ?_⟩)) rfl
  · refine v_if_eq 16 8 dX4_stick_5 rfl rfl (fun h => absurd h (by decide)) (fun _ => ?_)
    refine la_3_0 9 dX4_stick_8 rfl ?_
    refine li_3_2 10 dX4_stick_9 rfl ?_
    refine v_cVI1 13 dX4_stick_10 rfl fvX4_isLetter fiX4_isLetter ml_X4_132 (seX4) rfl ⟨(Nat.le_of_ble_eq_true rfl), (Nat.le_of_ble_eq_true rfl)⟩ (Nat.le_of_ble_eq_true rfl) (Nat.le_of_ble_eq_true rfl) (c_X4_isLetter hS.1 hb0 (fun q10 => ⟨_, rfl, ?_⟩) (fun q10 => ⟨_, rfl, ?_⟩)) rfl
    · refine v_if_ne 18 16 dX4_stick_13 rfl rfl (fun _ => ?_) (fun h => absurd h (by decide))
      refine la_3_0 19 dX4_stick_18 rfl ?_
      refine v_iconst (v := 0) 20 dX4_stick_19 rfl ki_0 ?_
      refine li_3_1 21 dX4_stick_20 rfl ?_
      refine li_3_2 22 dX4_stick_21 rfl ?_
      refine v_cVI3 25 dX4_stick_22 rfl fvX4_canStick fiX4_canStick ml_X4_153 (seX4) rfl ⟨(Nat.le_of_ble_eq_true rfl), (Nat.le_of_ble_eq_true rfl)⟩ (Nat.le_of_ble_eq_true rfl) (Nat.le_of_ble_eq_true rfl) (c_X4_canStick (l := 0) hS.1 hb0 (fun q22 => ⟨_, rfl, ?_⟩) (fun q22 => ⟨_, rfl, ?_⟩)) rfl
      · obtain ⟨k, hk, rfl⟩ := q2
        obtain ⟨m, hm, rfl⟩ := q10
        refine v_if_ne 31 28 dX4_stick_25 rfl rfl (fun _ => ?_) (fun h => absurd h (by decide))
        refine la_3_0 32 dX4_stick_31 rfl ?_
        refine v_cVN0 35 dX4_stick_32 rfl fvX4_keepAct fiX4_keepAct ml_X4_141 (seX4) rfl ⟨(Nat.le_of_ble_eq_true rfl), (Nat.le_of_ble_eq_true rfl)⟩ (Nat.le_of_ble_eq_true rfl) (Nat.le_of_ble_eq_true rfl) (c_X4_keepAct hS (fun u1 hS1 G1 => ⟨rfl, ?_⟩)) rfl
        refine la_3_0 36 dX4_stick_35 rfl ?_
        refine v_iconst (v := 0) 37 dX4_stick_36 rfl ki_0 ?_
        refine li_3_1 38 dX4_stick_37 rfl ?_
        refine li_3_2 39 dX4_stick_38 rfl ?_
        refine v_cVN3 42 dX4_stick_39 rfl fvX4_stickOn fiX4_stickOn ml_X4_157 (seX4) rfl ⟨(Nat.le_of_ble_eq_true rfl), (Nat.le_of_ble_eq_true rfl)⟩ (Nat.le_of_ble_eq_true rfl) (Nat.le_of_ble_eq_true rfl) (c_X4_stickOn (l := 0) hS1.1 hb0 hk (hh k hk) (fun u2 hM2 hF2 => ⟨rfl, ?_⟩)) rfl
        refine la_3_0 43 dX4_stick_42 rfl ?_
        refine v_iconst (v := 0) 44 dX4_stick_43 rfl ki_0 ?_
        refine li_3_2 45 dX4_stick_44 rfl ?_
        refine v_cVI2 48 dX4_stick_45 rfl fvX4_onLetter fiX4_onLetter ml_X4_125 (seX4) rfl ⟨(Nat.le_of_ble_eq_true rfl), (Nat.le_of_ble_eq_true rfl)⟩ (Nat.le_of_ble_eq_true rfl) (Nat.le_of_ble_eq_true rfl) (c_X4_onLetter (l := 0) hM2 hb0 ⟨_, rfl, ?_⟩) rfl
        refine v_cSI1 51 dX4_stick_48 rfl fvX4_ones fsX4_ones ml_X4_147 ⟨(Nat.le_of_ble_eq_true rfl), (Nat.le_of_ble_eq_true rfl)⟩ (Nat.le_of_ble_eq_true rfl) (Nat.le_of_ble_eq_true rfl) (c_X4_ones ⟨_, rfl, ?_⟩) rfl
        refine v_iret dX4_stick_51 rfl ?_
        rw [show stickF P A (nI k) (nI m) = (bcF (stuckP (stickP P k (nI m)) (nI m)), stickP P k (nI m), pushA A P) from by unfold stickF; rw [kk_nI (by omega)]; exact (ifP_neg (fun q => q ⟨⟨k, hk, rfl⟩, ⟨m, hm, rfl⟩⟩)).trans (ifP_neg (fun q => q q22))] at hQ
        rw [show onI (stuckP (stickP P k (nI m)) (nI m)) 5 = bcF (stuckP (stickP P k (nI m)) (nI m)) from ones_or _ b5]
        exact hQ _ (hS1.fr0 hM2 hF2) (G1.tr hF2.K)
      · refine v_if_ne 31 28 dX4_stick_25 rfl rfl (fun h => absurd rfl h) (fun _ => ?_)
        refine v_bipush (v := (-3)) 30 dX4_stick_28 rfl kb_m3 ?_
        refine v_iret dX4_stick_30 rfl ?_
        rw [show stickF P A i l = (-3, P, A) from (ifP_neg (fun q => q ⟨q2, q10⟩)).trans (ifP_pos q22)] at hQ
        exact hQ _ hS FrK.rf
    · refine v_if_ne 18 16 dX4_stick_13 rfl rfl (fun h => absurd rfl h) (fun _ => ?_)
      refine v_iconst (v := (-1)) 17 dX4_stick_16 rfl ki_m1 ?_
      refine v_iret dX4_stick_17 rfl ?_
      rw [show stickF P A i l = (-1, P, A) from ifP_pos (fun q => q10 q.2)] at hQ
      exact hQ _ hS FrK.rf
  · refine v_if_eq 16 8 dX4_stick_5 rfl rfl (fun _ => ?_) (fun h => absurd rfl h)
    refine v_iconst (v := (-1)) 17 dX4_stick_16 rfl ki_m1 ?_
    refine v_iret dX4_stick_17 rfl ?_
    rw [show stickF P A i l = (-1, P, A) from ifP_pos (fun q => q2 q.1)] at hQ
    exact hQ _ hS FrK.rf
set_option maxHeartbeats 4000000 in
set_option maxRecDepth 100000 in
theorem c_X4_send {w : Wd} {P : PT} {T : TT} {A : AT} {U : Nat → Bool} {K : Nat → PT} {N : NT} {z : Int64} (hS : mS w P T A U K N z) (hkd : ∀ s, s < P.1.1 → P.2 2 s = 0 ∨ P.2 2 s = 1 ∨ P.2 2 s = 2 ∨ P.2 2 s = 3) {l : Int32} {Q : Option Value → Wd → Prop} (hQ : ∀ u, mS u (sendF P A l).2.1 T (sendF P A l).2.2 U K N z → FrK w u → Q (some (.int (sendF P A l).1)) u) : V mX4_send 0 [some (.ref 1), some (.int l)] [] w Q := by
  have b5 := hS.1.2.2.1
  have b4 := hS.1.2.2.2.1
  refine la_2_0 1 dX4_send_0 rfl ?_
  refine li_2_1 2 dX4_send_1 rfl ?_
  refine v_cVI1 5 dX4_send_2 rfl fvX4_isLetter fiX4_isLetter ml_X4_132 (seX4) rfl ⟨(Nat.le_of_ble_eq_true rfl), (Nat.le_of_ble_eq_true rfl)⟩ (Nat.le_of_ble_eq_true rfl) (Nat.le_of_ble_eq_true rfl) (c_X4_isLetter hS.1 hb0 (fun q2 => ⟨_, rfl, ?_⟩) (fun q2 => ⟨_, rfl, ?_⟩)) rfl
  · refine v_if_ne 10 8 dX4_send_5 rfl rfl (fun _ => ?_) (fun h => absurd h (by decide))
    refine la_2_0 11 dX4_send_10 rfl ?_
    refine v_iconst (v := 0) 12 dX4_send_11 rfl ki_0 ?_
    refine li_2_1 13 dX4_send_12 rfl ?_
    refine v_cVI2 16 dX4_send_13 rfl fvX4_canSend fiX4_canSend ml_X4_160 (seX4) rfl ⟨(Nat.le_of_ble_eq_true rfl), (Nat.le_of_ble_eq_true rfl)⟩ (Nat.le_of_ble_eq_true rfl) (Nat.le_of_ble_eq_true rfl) (c_X4_canSend (l := 0) hS.1 hb0 hkd (fun q13 => ⟨_, rfl, ?_⟩) (fun q13 => ⟨_, rfl, ?_⟩)) rfl
    · obtain ⟨m, hm, rfl⟩ := q2
      refine v_if_ne 22 19 dX4_send_16 rfl rfl (fun _ => ?_) (fun h => absurd h (by decide))
      refine la_2_0 23 dX4_send_22 rfl ?_
      refine v_cVN0 26 dX4_send_23 rfl fvX4_keepAct fiX4_keepAct ml_X4_141 (seX4) rfl ⟨(Nat.le_of_ble_eq_true rfl), (Nat.le_of_ble_eq_true rfl)⟩ (Nat.le_of_ble_eq_true rfl) (Nat.le_of_ble_eq_true rfl) (c_X4_keepAct hS (fun u1 hS1 G1 => ⟨rfl, ?_⟩)) rfl
      skip
      refine la_2_0 27 dX4_send_26 rfl ?_
      refine vg_X4_16 rfl 30 dX4_send_27 rfl ?_
      refine v_bipush (v := 24) 32 dX4_send_30 rfl kb_24 ?_
      refine li_2_1 33 dX4_send_32 rfl ?_
      refine v_iadd 34 dX4_send_33 rfl ?_
      refine v_iconst (v := 1) 35 dX4_send_34 rfl ki_1 ?_
      refine vmw_7 hS1.1 hb0 _ 36 dX4_send_35 rfl (ixC 24 m) hm (fun u1 hM1 hF1 => ?_)
      refine la_2_0 37 dX4_send_36 rfl ?_
      refine vg_X4_16 rfl 40 dX4_send_37 rfl ?_
      refine v_bipush (v := 20) 42 dX4_send_40 rfl kb_20 ?_
      refine li_2_1 43 dX4_send_42 rfl ?_
      refine v_iadd 44 dX4_send_43 rfl ?_
      refine vmn_5 hM1 hb0 _ 45 dX4_send_44 rfl (ixC 20 m) hm ?_
      refine v_iret dX4_send_45 rfl ?_
      rw [show sendF P A (nI m) = (P.2 5 m, sendP P m, pushA A P) from by unfold sendF; rw [kk_nI (by omega)]; exact (ifP_neg (fun q => q ⟨m, hm, rfl⟩)).trans (ifP_neg (fun q => q q13))] at hQ
      exact hQ _ (hS1.fr0 hM1 hF1) (G1.tr hF1.K)
    · refine v_if_ne 22 19 dX4_send_16 rfl rfl (fun h => absurd rfl h) (fun _ => ?_)
      refine v_bipush (v := (-3)) 21 dX4_send_19 rfl kb_m3 ?_
      refine v_iret dX4_send_21 rfl ?_
      rw [show sendF P A l = (-3, P, A) from (ifP_neg (fun q => q q2)).trans (ifP_pos q13)] at hQ
      exact hQ _ hS FrK.rf
  · refine v_if_ne 10 8 dX4_send_5 rfl rfl (fun h => absurd rfl h) (fun _ => ?_)
    refine v_iconst (v := (-1)) 9 dX4_send_8 rfl ki_m1 ?_
    refine v_iret dX4_send_9 rfl ?_
    rw [show sendF P A l = (-1, P, A) from ifP_pos (fun q => q2 q)] at hQ
    exact hQ _ hS FrK.rf
set_option maxHeartbeats 4000000 in
set_option maxRecDepth 100000 in
theorem c_X4_part {w : Wd} {P : PT} {T : TT} {A : AT} {U : Nat → Bool} {K : Nat → PT} {N : NT} {z : Int64} (hS : mS w P T A U K N z) (hJ : ∀ k, k < P.1.1 → ∃ q, q < 32 ∧ P.2 3 k = nI q) {i j : Int32} {Q : Option Value → Wd → Prop} (hQ : ∀ u, mS u (partF P A i j).2.1 T (partF P A i j).2.2 U K N z → FrK w u → Q (some (.int (partF P A i j).1)) u) : V mX4_part 0 [some (.ref 1), some (.int i), some (.int j)] [] w Q := by
  have b5 := hS.1.2.2.1
  have b4 := hS.1.2.2.2.1
  refine la_3_0 1 dX4_part_0 rfl ?_
  refine li_3_1 2 dX4_part_1 rfl ?_
  refine v_cVI1 5 dX4_part_2 rfl fvX4_isStamp fiX4_isStamp ml_X4_128 (seX4) rfl ⟨(Nat.le_of_ble_eq_true rfl), (Nat.le_of_ble_eq_true rfl)⟩ (Nat.le_of_ble_eq_true rfl) (Nat.le_of_ble_eq_true rfl) (c_X4_isStamp hS.1 hb0 (fun q2 => ⟨_, rfl, ?_⟩) (fun q2 => ⟨_, rfl, ?_⟩)) rfl
  · refine v_if_eq 16 8 dX4_part_5 rfl rfl (fun h => absurd h (by decide)) (fun _ => ?_)
    refine la_3_0 9 dX4_part_8 rfl ?_
    refine li_3_2 10 dX4_part_9 rfl ?_
    refine v_cVI1 13 dX4_part_10 rfl fvX4_isStamp fiX4_isStamp ml_X4_128 (seX4) rfl ⟨(Nat.le_of_ble_eq_true rfl), (Nat.le_of_ble_eq_true rfl)⟩ (Nat.le_of_ble_eq_true rfl) (Nat.le_of_ble_eq_true rfl) (c_X4_isStamp hS.1 hb0 (fun q10 => ⟨_, rfl, ?_⟩) (fun q10 => ⟨_, rfl, ?_⟩)) rfl
    · refine v_if_ne 18 16 dX4_part_13 rfl rfl (fun _ => ?_) (fun h => absurd h (by decide))
      refine la_3_0 19 dX4_part_18 rfl ?_
      refine v_iconst (v := 0) 20 dX4_part_19 rfl ki_0 ?_
      refine li_3_1 21 dX4_part_20 rfl ?_
      refine li_3_2 22 dX4_part_21 rfl ?_
      refine v_cVI3 25 dX4_part_22 rfl fvX4_canPart fiX4_canPart ml_X4_163 (seX4) rfl ⟨(Nat.le_of_ble_eq_true rfl), (Nat.le_of_ble_eq_true rfl)⟩ (Nat.le_of_ble_eq_true rfl) (Nat.le_of_ble_eq_true rfl) (c_X4_canPart (l := 0) hS.1 hb0 (fun q22 => ⟨_, rfl, ?_⟩) (fun q22 => ⟨_, rfl, ?_⟩)) rfl
      · obtain ⟨k, hk, rfl⟩ := q2
        obtain ⟨m, hm, rfl⟩ := q10
        refine v_if_ne 31 28 dX4_part_25 rfl rfl (fun _ => ?_) (fun h => absurd h (by decide))
        refine la_3_0 32 dX4_part_31 rfl ?_
        refine v_cVN0 35 dX4_part_32 rfl fvX4_keepAct fiX4_keepAct ml_X4_141 (seX4) rfl ⟨(Nat.le_of_ble_eq_true rfl), (Nat.le_of_ble_eq_true rfl)⟩ (Nat.le_of_ble_eq_true rfl) (Nat.le_of_ble_eq_true rfl) (c_X4_keepAct hS (fun u1 hS1 G1 => ⟨rfl, ?_⟩)) rfl
        refine la_3_0 36 dX4_part_35 rfl ?_
        refine v_iconst (v := 0) 37 dX4_part_36 rfl ki_0 ?_
        refine li_3_1 38 dX4_part_37 rfl ?_
        refine li_3_2 39 dX4_part_38 rfl ?_
        refine v_cVN3 42 dX4_part_39 rfl fvX4_partOn fiX4_partOn ml_X4_166 (seX4) rfl ⟨(Nat.le_of_ble_eq_true rfl), (Nat.le_of_ble_eq_true rfl)⟩ (Nat.le_of_ble_eq_true rfl) (Nat.le_of_ble_eq_true rfl) (c_X4_partOn (l := 0) hS1.1 hb0 hk hm (fun u2 hM2 hF2 => ⟨rfl, ?_⟩)) rfl
        refine la_3_0 43 dX4_part_42 rfl ?_
        refine vg_X4_16 rfl 46 dX4_part_43 rfl ?_
        refine v_bipush (v := 10) 48 dX4_part_46 rfl kb_10 ?_
        refine li_3_1 49 dX4_part_48 rfl ?_
        refine v_iadd 50 dX4_part_49 rfl ?_
        refine vmn_3 hM2 hb0 _ 51 dX4_part_50 rfl (ixC 10 k) hk ?_
        refine v_cSI1 54 dX4_part_51 rfl fvX4_ones fsX4_ones ml_X4_147 ⟨(Nat.le_of_ble_eq_true rfl), (Nat.le_of_ble_eq_true rfl)⟩ (Nat.le_of_ble_eq_true rfl) (Nat.le_of_ble_eq_true rfl) (c_X4_ones ⟨_, rfl, ?_⟩) rfl
        refine v_iret dX4_part_54 rfl ?_
        rw [show partF P A (nI k) (nI m) = (bcF ((partP P k m).2 3 k), partP P k m, pushA A P) from by unfold partF; rw [kk_nI (by omega), kk_nI (by omega)]; exact (ifP_neg (fun q => q ⟨⟨k, hk, rfl⟩, ⟨m, hm, rfl⟩⟩)).trans (ifP_neg (fun q => q q22))] at hQ
        obtain ⟨r, hr, er⟩ := part_32 hJ hk hm
        rw [er] at hQ
        rw [er, ones_eq r hr]
        exact hQ _ (hS1.fr0 hM2 hF2) (G1.tr hF2.K)
      · refine v_if_ne 31 28 dX4_part_25 rfl rfl (fun h => absurd rfl h) (fun _ => ?_)
        refine v_bipush (v := (-3)) 30 dX4_part_28 rfl kb_m3 ?_
        refine v_iret dX4_part_30 rfl ?_
        rw [show partF P A i j = (-3, P, A) from (ifP_neg (fun q => q ⟨q2, q10⟩)).trans (ifP_pos q22)] at hQ
        exact hQ _ hS FrK.rf
    · refine v_if_ne 18 16 dX4_part_13 rfl rfl (fun h => absurd rfl h) (fun _ => ?_)
      refine v_iconst (v := (-1)) 17 dX4_part_16 rfl ki_m1 ?_
      refine v_iret dX4_part_17 rfl ?_
      rw [show partF P A i j = (-1, P, A) from ifP_pos (fun q => q10 q.2)] at hQ
      exact hQ _ hS FrK.rf
  · refine v_if_eq 16 8 dX4_part_5 rfl rfl (fun _ => ?_) (fun h => absurd rfl h)
    refine v_iconst (v := (-1)) 17 dX4_part_16 rfl ki_m1 ?_
    refine v_iret dX4_part_17 rfl ?_
    rw [show partF P A i j = (-1, P, A) from ifP_pos (fun q => q2 q.1)] at hQ
    exact hQ _ hS FrK.rf
set_option maxHeartbeats 4000000 in
set_option maxRecDepth 100000 in
theorem c_X4_damp {w : Wd} {P : PT} {T : TT} {A : AT} {U : Nat → Bool} {K : Nat → PT} {N : NT} {z : Int64} (hS : mS w P T A U K N z) (hz : P.1.2.2.2 = 0 ∨ P.1.2.2.2 = 1) {Q : Option Value → Wd → Prop} (hQ : ∀ u, mS u (dampP P (if P.1.2.2.2 = 0 then 1 else 0)) T (pushA A P) U K N z → FrK w u → Q (some (.int (if P.1.2.2.2 = 0 then 1 else 0))) u) : V mX4_damp 0 [some (.ref 1)] [] w Q := by
  have b5 := hS.1.2.2.1
  have b4 := hS.1.2.2.2.1
  refine la_1_0 1 dX4_damp_0 rfl ?_
  refine v_cVN0 4 dX4_damp_1 rfl fvX4_keepAct fiX4_keepAct ml_X4_141 (seX4) rfl ⟨(Nat.le_of_ble_eq_true rfl), (Nat.le_of_ble_eq_true rfl)⟩ (Nat.le_of_ble_eq_true rfl) (Nat.le_of_ble_eq_true rfl) (c_X4_keepAct hS (fun u1 hS1 G1 => ⟨rfl, ?_⟩)) rfl
  refine la_1_0 5 dX4_damp_4 rfl ?_
  refine vg_X4_16 rfl 8 dX4_damp_5 rfl ?_
  refine v_bipush (v := 28) 10 dX4_damp_8 rfl kb_28 ?_
  refine v_iconst (v := 1) 11 dX4_damp_10 rfl ki_1 ?_
  refine la_1_0 12 dX4_damp_11 rfl ?_
  refine vg_X4_16 rfl 15 dX4_damp_12 rfl ?_
  refine v_bipush (v := 28) 17 dX4_damp_15 rfl kb_28 ?_
  refine vmr_damp hS1.1 hb0 18 dX4_damp_17 rfl rfl ?_
  refine v_isub 19 dX4_damp_18 rfl ?_
  refine vmw_damp hS1.1 hb0 20 dX4_damp_19 rfl rfl (fun u1 hM1 hF1 => ?_)
  refine la_1_0 21 dX4_damp_20 rfl ?_
  refine vg_X4_16 rfl 24 dX4_damp_21 rfl ?_
  refine v_bipush (v := 28) 26 dX4_damp_24 rfl kb_28 ?_
  refine vmr_damp hM1 hb0 27 dX4_damp_26 rfl rfl ?_
  refine v_iret dX4_damp_27 rfl ?_
  have ed : 1 - P.1.2.2.2 = (if P.1.2.2.2 = 0 then 1 else 0) := by rcases hz with kz | kz <;> rw [kz] <;> decide
  rw [← ed] at hQ
  exact hQ _ (hS1.fr0 hM1 hF1) (G1.tr hF1.K)

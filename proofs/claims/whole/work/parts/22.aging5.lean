def passN (P : PT) : Nat → PT
  | 0 => P
  | n + 1 => passP (passN P n)
theorem pass_1 (P : PT) : (passP P).1.1 = P.1.1 ∧ (passP P).1.2.1 = P.1.2.1 ∧ (passP P).1.2.2.2 = P.1.2.2.2 := ⟨rfl, rfl, rfl⟩
theorem passN_1 (P : PT) : ∀ n, (passN P n).1.1 = P.1.1 ∧ (passN P n).1.2.1 = P.1.2.1 ∧ (passN P n).1.2.2.2 = P.1.2.2.2
  | 0 => ⟨rfl, rfl, rfl⟩
  | n + 1 => passN_1 P n
/-- from week i on, f weeks looked at -/
def liveG (P : PT) (k i : Nat) : Nat → Int32
  | 0 => -9
  | f + 1 => if alP (passN P i) k then liveG P k (i + 1) f else nI i
noncomputable def livesF (P : PT) (i : Int32) : Int32 := ifP (¬ inQ i P.1.1) (-1) (liveG P (kk i) 0 100)
theorem le_up {i : Nat} (hi : i ≤ 100) (h : ¬ 99 < nI i) : i < 100 := by
  rw [i_lt, nI_toInt (by omega)] at h
  have : (99 : Int32).toInt = 99 := by decide
  omega
theorem gt_up {i : Nat} (hi : i ≤ 100) (h : 99 < nI i) : i = 100 := by
  rw [i_lt, nI_toInt (by omega)] at h
  have : (99 : Int32).toInt = 99 := by decide
  omega
set_option maxHeartbeats 4000000 in
set_option maxRecDepth 100000 in
theorem c_X3_lives {w : Wd} {P : PT} {T : TT} {A : AT} {U : Nat → Bool} {K : Nat → PT} {N : NT} {z : Int64} (hS : cS w P T A U K N z) (hz : P.1.2.2.2 = 0 ∨ P.1.2.2.2 = 1) {i : Int32} {Q : Option Value → Wd → Prop} (hQ : ∀ u, cS u P T A U K N z → FrC w u → Q (some (.int (livesF P i))) u) : V mX3_lives 0 [some (.ref 0), some (.int i), none] [] w Q := by
  have b5 := hS.1.2.2.2.2.1
  have b4 := hS.1.2.2.2.2.2.1
  have key : ∀ k, k < P.1.1 → (∀ u, cS u P T A U K N z → FrC w u → Q (some (.int (liveG P k 0 100))) u) → ∀ j, j ≤ 100 → ∀ u, liveG P k 0 100 = liveG P k j (100 - j) → isC u 1 (passN P j) → Fr 1 w u → V mX3_lives 26 [some (.ref 0), some (.int (nI k)), some (.int (nI j))] [] u Q := by
    intro k hk hQ
    refine up (P := fun j => ∀ u, liveG P k 0 100 = liveG P k j (100 - j) → isC u 1 (passN P j) → Fr 1 w u → V mX3_lives 26 [some (.ref 0), some (.int (nI k)), some (.int (nI j))] [] u Q) (fun j hj ih => ?_)
    intro u hv hC hF
    have hn := (passN_1 P j).1
    refine li_3_2 27 dX3_lives_26 rfl ?_
    refine v_bipush (v := 99) 29 dX3_lives_27 rfl kb_99 ?_
    refine v_icmp_gt 58 32 dX3_lives_29 rfl rfl (fun h29 => ?_) (fun h29 => ?_)
    · have hj2 := gt_up hj h29
      subst hj2
      refine v_bipush (v := (-9)) 60 dX3_lives_58 rfl kb_m9 ?_
      refine v_iret dX3_lives_60 rfl ?_
      rw [hv] at hQ
      exact hQ _ (hS.fr1 hF) (hF.C hb1)
    · have hlt := le_up hj h29
      have e : 100 - j = (100 - (j + 1)) + 1 := by omega
      refine la_3_0 33 dX3_lives_32 rfl ?_
      refine vg_X3_27 rfl 36 dX3_lives_33 rfl ?_
      refine li_3_1 37 dX3_lives_36 rfl ?_
      refine v_cVI1 40 dX3_lives_37 rfl fvX1_isAlive fiX1_isAlive ml_X3_99 (seX1 hb1) rfl ⟨(Nat.le_of_ble_eq_true rfl), (Nat.le_of_ble_eq_true rfl)⟩ (Nat.le_of_ble_eq_true rfl) (Nat.le_of_ble_eq_true rfl) (c_X1_isAlive hb1 hC (by rw [hn]; exact hk) (fun q37 => ⟨_, rfl, ?_⟩) (fun q37 => ⟨_, rfl, ?_⟩)) rfl
      · refine v_if_ne 45 43 dX3_lives_40 rfl rfl (fun _ => ?_) (fun h => absurd h (by decide))
        refine la_3_0 46 dX3_lives_45 rfl ?_
        refine vg_X3_27 rfl 49 dX3_lives_46 rfl ?_
        refine v_cVN0 52 dX3_lives_49 rfl fvX1_passWeek fiX1_passWeek ml_X3_129 (seX1 hb1) rfl ⟨(Nat.le_of_ble_eq_true rfl), (Nat.le_of_ble_eq_true rfl)⟩ (Nat.le_of_ble_eq_true rfl) (Nat.le_of_ble_eq_true rfl) (c_X1_passWeek hb1 hC (fun u1 hC1 hF1 => ⟨rfl, ?_⟩)) rfl
        refine icn_3_2 rfl 55 dX3_lives_52 rfl rfl ?_
        refine v_goto 26 dX3_lives_55 rfl ?_
        exact ih hlt _ (by rw [hv, e, liveG, q37]; rfl) hC1 (hF.tr hF1)
      · refine v_if_ne 45 43 dX3_lives_40 rfl rfl (fun h => absurd rfl h) (fun _ => ?_)
        refine li_3_2 44 dX3_lives_43 rfl ?_
        refine v_iret dX3_lives_44 rfl ?_
        rw [hv, e, liveG, q37] at hQ
        exact hQ _ (hS.fr1 hF) (hF.C hb1)
  refine la_3_0 1 dX3_lives_0 rfl ?_
  refine vg_X3_23 rfl 4 dX3_lives_1 rfl ?_
  refine li_3_1 5 dX3_lives_4 rfl ?_
  refine v_cVI1 8 dX3_lives_5 rfl fvX1_hasStamp fiX1_hasStamp ml_X3_79 (seX1 hb0) rfl ⟨(Nat.le_of_ble_eq_true rfl), (Nat.le_of_ble_eq_true rfl)⟩ (Nat.le_of_ble_eq_true rfl) (Nat.le_of_ble_eq_true rfl) (c_X1_hasStamp hb0 hS.1 (fun q5 => ⟨_, rfl, ?_⟩) (fun q5 => ⟨_, rfl, ?_⟩)) rfl
  · obtain ⟨k, hk, rfl⟩ := q5
    refine v_if_ne 13 11 dX3_lives_8 rfl rfl (fun _ => ?_) (fun h => absurd h (by decide))
    refine la_3_0 14 dX3_lives_13 rfl ?_
    refine vg_X3_27 rfl 17 dX3_lives_14 rfl ?_
    refine la_3_0 18 dX3_lives_17 rfl ?_
    refine vg_X3_23 rfl 21 dX3_lives_18 rfl ?_
    refine v_cVN1 24 dX3_lives_21 rfl fvX1_copyFrom fiX1_copyFrom ml_X3_66 (seX1 hb1) rfl ⟨(Nat.le_of_ble_eq_true rfl), (Nat.le_of_ble_eq_true rfl)⟩ (Nat.le_of_ble_eq_true rfl) (Nat.le_of_ble_eq_true rfl) (c_X1_copyFrom hb1 hb0 (by decide) hS.1 hz (fun u1 hC1 hF1 => ⟨rfl, ?_⟩)) rfl
    refine v_iconst (v := 0) 25 dX3_lives_24 rfl ki_0 ?_
    refine si_3_2 rfl 26 dX3_lives_25 rfl rfl ?_
    exact key k hk (by rw [show livesF P (nI k) = liveG P k 0 100 from by unfold livesF; rw [kk_nI (by omega)]; exact ifP_neg (fun q => q ⟨k, hk, rfl⟩)] at hQ; exact hQ) 0 (Nat.zero_le _) _ rfl hC1 hF1
  · refine v_if_ne 13 11 dX3_lives_8 rfl rfl (fun h => absurd rfl h) (fun _ => ?_)
    refine v_iconst (v := (-1)) 12 dX3_lives_11 rfl ki_m1 ?_
    refine v_iret dX3_lives_12 rfl ?_
    rw [show livesF P i = -1 from ifP_pos q5] at hQ
    exact hQ _ hS FrC.rf
def stickI (P : PT) (x l : Int32) : Nat → PT
  | 0 => P
  | i + 1 => if bit x i then stickP (stickI P x l i) i l else stickI P x l i
theorem stickI_1 (P : PT) (x l : Int32) : ∀ i, (stickI P x l i).1 = P.1
  | 0 => rfl
  | i + 1 => by
    unfold stickI
    split
    · exact stickI_1 P x l i
    · exact stickI_1 P x l i
/-- letter m, with the stamps of x stuck on, is sent -/
noncomputable def tryF (P : PT) (m : Nat) (x : Int32) : Int32 := ifP (¬ sendQ (stickI P x (nI m) P.1.1) (nI m)) (-9) (if (passN (sendP (stickI P x (nI m) P.1.1) m) (kk (P.2 5 m))).2 7 m = 2 then 1 else 0)
theorem stickI_5 (P : PT) (x l : Int32) (m : Nat) : ∀ i, (stickI P x l i).2 5 m = P.2 5 m
  | 0 => rfl
  | i + 1 => by
    unfold stickI
    split
    · exact (show (stickP (stickI P x l i) i l).2 5 m = (stickI P x l i).2 5 m by simp [stickP, setP]).trans (stickI_5 P x l m i)
    · exact stickI_5 P x l m i
set_option maxHeartbeats 4000000 in
set_option maxRecDepth 100000 in
theorem c_X3_tryToSend {w : Wd} {P : PT} {T : TT} {A : AT} {U : Nat → Bool} {K : Nat → PT} {N : NT} {z : Int64} (hS : cS w P T A U K N z) (hz : P.1.2.2.2 = 0 ∨ P.1.2.2.2 = 1) {m : Nat} (hm : m < P.1.2.1) {q : Nat} (hq : P.2 5 m = nI q) (hq9 : q < 1000) {x : Int32} {Q : Option Value → Wd → Prop} (hQ : ∀ u, cS u P T A U K N z → FrC w u → Q (some (.int (tryF P m x))) u) : V mX3_tryToSend 0 [some (.ref 0), some (.int (nI m)), some (.int x), none, none] [] w Q := by
  have b5 := hS.1.2.2.2.2.1
  have b4 := hS.1.2.2.2.2.2.1
  have key2 : sendQ (stickI P x (nI m) P.1.1) (nI m) → ∀ j, j ≤ q → ∀ u, isC u 1 (passN (sendP (stickI P x (nI m) P.1.1) m) j) → Fr 1 w u → V mX3_tryToSend 83 [some (.ref 0), some (.int (nI m)), some (.int x), some (.int (nI q)), some (.int (nI j))] [] u Q := by
    intro hs
    rw [show tryF P m x = (if (passN (sendP (stickI P x (nI m) P.1.1) m) q).2 7 m = 2 then 1 else 0) from by unfold tryF; rw [hq, kk_nI (by omega)]; exact ifP_neg (fun z => z hs)] at hQ
    refine up (P := fun j => ∀ u, isC u 1 (passN (sendP (stickI P x (nI m) P.1.1) m) j) → Fr 1 w u → V mX3_tryToSend 83 [some (.ref 0), some (.int (nI m)), some (.int x), some (.int (nI q)), some (.int (nI j))] [] u Q) (fun j hj ih => ?_)
    intro u hC hF
    have hL : (passN (sendP (stickI P x (nI m) P.1.1) m) j).1.2.1 = P.1.2.1 := by rw [(passN_1 _ j).2.1]; show (stickI P x (nI m) P.1.1).1.2.1 = _; rw [stickI_1]
    refine li_5_4 85 dX3_tryToSend_83 rfl ?_
    refine li_5_3 86 dX3_tryToSend_85 rfl ?_
    refine v_icmp_ge 102 89 dX3_tryToSend_86 rfl rfl (fun h86 => ?_) (fun h86 => ?_)
    · obtain rfl := ge_eq h86 hj (by omega)
      refine la_5_0 103 dX3_tryToSend_102 rfl ?_
      refine vg_X3_27 rfl 106 dX3_tryToSend_103 rfl ?_
      refine vg_X3_123 hb1 rfl 109 dX3_tryToSend_106 rfl ?_
      refine li_5_1 110 dX3_tryToSend_109 rfl ?_
      refine vlq_X1_fate hb1 hC _ 111 dX3_tryToSend_110 rfl rfl (by rw [hL]; exact hm) ?_
      refine v_iconst (v := 2) 112 dX3_tryToSend_111 rfl ki_2 ?_
      refine v_icmp_ne 119 115 dX3_tryToSend_112 rfl rfl (fun h112 => ?_) (fun h112 => ?_)
      · rw [if_neg h112] at hQ
        refine v_iconst (v := 0) 120 dX3_tryToSend_119 rfl ki_0 ?_
        refine v_iret dX3_tryToSend_120 rfl ?_
        exact hQ _ (hS.fr1 hF) (hF.C hb1)
      · rw [if_pos h112] at hQ
        refine v_iconst (v := 1) 116 dX3_tryToSend_115 rfl ki_1 ?_
        refine v_goto 120 dX3_tryToSend_116 rfl ?_
        refine v_iret dX3_tryToSend_120 rfl ?_
        exact hQ _ (hS.fr1 hF) (hF.C hb1)
    · have hlt := ge_lt h86 (by omega) (by omega)
      refine la_5_0 90 dX3_tryToSend_89 rfl ?_
      refine vg_X3_27 rfl 93 dX3_tryToSend_90 rfl ?_
      refine v_cVN0 96 dX3_tryToSend_93 rfl fvX1_passWeek fiX1_passWeek ml_X3_129 (seX1 hb1) rfl ⟨(Nat.le_of_ble_eq_true rfl), (Nat.le_of_ble_eq_true rfl)⟩ (Nat.le_of_ble_eq_true rfl) (Nat.le_of_ble_eq_true rfl) (c_X1_passWeek hb1 hC (fun u1 hC1 hF1 => ⟨rfl, ?_⟩)) rfl
      refine icn_5_4 rfl 99 dX3_tryToSend_96 rfl rfl ?_
      refine v_goto 83 dX3_tryToSend_99 rfl ?_
      exact ih hlt _ hC1 (hF.tr hF1)
  have key : ∀ i, i ≤ P.1.1 → ∀ u, isC u 1 (stickI P x (nI m) i) → Fr 1 w u → V mX3_tryToSend 13 [some (.ref 0), some (.int (nI m)), some (.int x), some (.int (nI i)), none] [] u Q := by
    refine up (P := fun i => ∀ u, isC u 1 (stickI P x (nI m) i) → Fr 1 w u → V mX3_tryToSend 13 [some (.ref 0), some (.int (nI m)), some (.int x), some (.int (nI i)), none] [] u Q) (fun i hi ih => ?_)
    intro u hC hF
    have hn : (stickI P x (nI m) i).1.1 = P.1.1 := congrArg (fun p => p.1) (stickI_1 P x (nI m) i)
    have hL : (stickI P x (nI m) i).1.2.1 = P.1.2.1 := congrArg (fun p => p.2.1) (stickI_1 P x (nI m) i)
    refine li_5_3 14 dX3_tryToSend_13 rfl ?_
    refine la_5_0 15 dX3_tryToSend_14 rfl ?_
    refine vg_X3_27 rfl 18 dX3_tryToSend_15 rfl ?_
    refine vgq_X3_73 hb1 hC rfl 21 dX3_tryToSend_18 rfl ?_
    rw [hn]
    refine v_icmp_ge 48 24 dX3_tryToSend_21 rfl rfl (fun h21 => ?_) (fun h21 => ?_)
    · obtain rfl := ge_eq h21 hi (by omega)
      refine la_5_0 49 dX3_tryToSend_48 rfl ?_
      refine vg_X3_27 rfl 52 dX3_tryToSend_49 rfl ?_
      refine li_5_1 53 dX3_tryToSend_52 rfl ?_
      refine v_cVI1 56 dX3_tryToSend_53 rfl fvX1_canSend fiX1_canSend ml_X3_149 (seX1 hb1) rfl ⟨(Nat.le_of_ble_eq_true rfl), (Nat.le_of_ble_eq_true rfl)⟩ (Nat.le_of_ble_eq_true rfl) (Nat.le_of_ble_eq_true rfl) (c_X1_canSend hb1 hC (fun q53 => ⟨_, rfl, ?_⟩) (fun q53 => ⟨_, rfl, ?_⟩)) rfl
      · refine v_if_ne 62 59 dX3_tryToSend_56 rfl rfl (fun _ => ?_) (fun h => absurd h (by decide))
        refine la_5_0 63 dX3_tryToSend_62 rfl ?_
        refine vg_X3_27 rfl 66 dX3_tryToSend_63 rfl ?_
        refine li_5_1 67 dX3_tryToSend_66 rfl ?_
        refine v_cVN1 70 dX3_tryToSend_67 rfl fvX1_sendOff fiX1_sendOff ml_X3_152 (seX1 hb1) rfl ⟨(Nat.le_of_ble_eq_true rfl), (Nat.le_of_ble_eq_true rfl)⟩ (Nat.le_of_ble_eq_true rfl) (Nat.le_of_ble_eq_true rfl) (c_X1_sendOff hb1 hC (by rw [hL]; exact hm) (fun u1 hC1 hF1 => ⟨rfl, ?_⟩)) rfl
        refine la_5_0 71 dX3_tryToSend_70 rfl ?_
        refine vg_X3_27 rfl 74 dX3_tryToSend_71 rfl ?_
        refine vg_X3_111 hb1 rfl 77 dX3_tryToSend_74 rfl ?_
        refine li_5_1 78 dX3_tryToSend_77 rfl ?_
        refine vlq_X1_left hb1 hC1 _ 79 dX3_tryToSend_78 rfl rfl (by show m < (stickI P x (nI m) P.1.1).1.2.1; rw [hL]; exact hm) ?_
        rw [show (sendP (stickI P x (nI m) P.1.1) m).2 5 m = nI q from by rw [← hq, ← stickI_5 P x (nI m) m P.1.1]; simp [sendP, setP]]
        refine si_5_3 rfl 80 dX3_tryToSend_79 rfl rfl ?_
        refine v_iconst (v := 0) 81 dX3_tryToSend_80 rfl ki_0 ?_
        refine si_5_4 rfl 83 dX3_tryToSend_81 rfl rfl ?_
        exact key2 q53 0 (Nat.zero_le _) _ hC1 (hF.tr hF1)
      · refine v_if_ne 62 59 dX3_tryToSend_56 rfl rfl (fun h => absurd rfl h) (fun _ => ?_)
        refine v_bipush (v := (-9)) 61 dX3_tryToSend_59 rfl kb_m9 ?_
        refine v_iret dX3_tryToSend_61 rfl ?_
        rw [show tryF P m x = -9 from ifP_pos q53] at hQ
        exact hQ _ (hS.fr1 hF) (hF.C hb1)
    · have hlt := ge_lt h21 (by omega) (by omega)
      refine li_5_2 25 dX3_tryToSend_24 rfl ?_
      refine li_5_3 26 dX3_tryToSend_25 rfl ?_
      refine v_ishr 27 dX3_tryToSend_26 rfl ?_
      refine v_iconst (v := 1) 28 dX3_tryToSend_27 rfl ki_1 ?_
      refine v_iand 29 dX3_tryToSend_28 rfl ?_
      refine v_iconst (v := 1) 30 dX3_tryToSend_29 rfl ki_1 ?_
      refine v_icmp_ne 42 33 dX3_tryToSend_30 rfl rfl (fun h30 => ?_) (fun h30 => ?_)
      · refine icn_5_3 rfl 45 dX3_tryToSend_42 rfl rfl ?_
        refine v_goto 13 dX3_tryToSend_45 rfl ?_
        exact ih hlt _ (by simp only [stickI, bit, h30, decide_false]; exact hC) hF
      · refine la_5_0 34 dX3_tryToSend_33 rfl ?_
        refine vg_X3_27 rfl 37 dX3_tryToSend_34 rfl ?_
        refine li_5_3 38 dX3_tryToSend_37 rfl ?_
        refine li_5_1 39 dX3_tryToSend_38 rfl ?_
        refine v_cVN2 42 dX3_tryToSend_39 rfl fvX1_stickOn fiX1_stickOn ml_X3_145 (seX1 hb1) rfl ⟨(Nat.le_of_ble_eq_true rfl), (Nat.le_of_ble_eq_true rfl)⟩ (Nat.le_of_ble_eq_true rfl) (Nat.le_of_ble_eq_true rfl) (c_X1_stickOn hb1 hC (by rw [hn]; exact hlt) (fun u1 hC1 hF1 => ⟨rfl, ?_⟩)) rfl
        refine icn_5_3 rfl 45 dX3_tryToSend_42 rfl rfl ?_
        refine v_goto 13 dX3_tryToSend_45 rfl ?_
        exact ih hlt _ (by simp only [stickI, bit, h30, decide_true]; exact hC1) (hF.tr hF1)
  refine la_5_0 1 dX3_tryToSend_0 rfl ?_
  refine vg_X3_27 rfl 4 dX3_tryToSend_1 rfl ?_
  refine la_5_0 5 dX3_tryToSend_4 rfl ?_
  refine vg_X3_23 rfl 8 dX3_tryToSend_5 rfl ?_
  refine v_cVN1 11 dX3_tryToSend_8 rfl fvX1_copyFrom fiX1_copyFrom ml_X3_66 (seX1 hb1) rfl ⟨(Nat.le_of_ble_eq_true rfl), (Nat.le_of_ble_eq_true rfl)⟩ (Nat.le_of_ble_eq_true rfl) (Nat.le_of_ble_eq_true rfl) (c_X1_copyFrom hb1 hb0 (by decide) hS.1 hz (fun u1 hC1 hF1 => ⟨rfl, ?_⟩)) rfl
  refine v_iconst (v := 0) 12 dX3_tryToSend_11 rfl ki_0 ?_
  refine si_5_3 rfl 13 dX3_tryToSend_12 rfl rfl ?_
  exact key 0 (Nat.zero_le _) _ hC1 hF1
noncomputable def comesF (P : PT) (l x : Int32) : Int32 := ifP (¬ inQ l P.1.2.1) (-1) (ifP (x < 0 ∨ ¬ x ≤ 1 <<< (nI P.1.1 &&& 31) - 1) (-2) (ifP (¬ P.2 7 (kk l) = 0 ∨ ¬ x &&& (freeP P ^^^ (-1)) = 0) (-3) (tryF P (kk l) x)))
set_option maxHeartbeats 4000000 in
set_option maxRecDepth 100000 in
theorem c_X3_comes {w : Wd} {P : PT} {T : TT} {A : AT} {U : Nat → Bool} {K : Nat → PT} {N : NT} {z : Int64} (hS : cS w P T A U K N z) (hz : P.1.2.2.2 = 0 ∨ P.1.2.2.2 = 1) (hq : ∀ m, m < P.1.2.1 → ∃ q, q < 1000 ∧ P.2 5 m = nI q) {l x : Int32} {Q : Option Value → Wd → Prop} (hQ : ∀ u, cS u P T A U K N z → FrC w u → Q (some (.int (comesF P l x))) u) : V mX3_comes 0 [some (.ref 0), some (.int l), some (.int x)] [] w Q := by
  have b5 := hS.1.2.2.2.2.1
  have b4 := hS.1.2.2.2.2.2.1
  refine la_3_0 1 dX3_comes_0 rfl ?_
  refine vg_X3_23 rfl 4 dX3_comes_1 rfl ?_
  refine li_3_1 5 dX3_comes_4 rfl ?_
  refine v_cVI1 8 dX3_comes_5 rfl fvX1_hasLetter fiX1_hasLetter ml_X3_108 (seX1 hb0) rfl ⟨(Nat.le_of_ble_eq_true rfl), (Nat.le_of_ble_eq_true rfl)⟩ (Nat.le_of_ble_eq_true rfl) (Nat.le_of_ble_eq_true rfl) (c_X1_hasLetter hb0 hS.1 (fun q5 => ⟨_, rfl, ?_⟩) (fun q5 => ⟨_, rfl, ?_⟩)) rfl
  · obtain ⟨m, hm, rfl⟩ := q5
    obtain ⟨q, hq9, hq5⟩ := hq m hm
    refine v_if_ne 13 11 dX3_comes_8 rfl rfl (fun _ => ?_) (fun h => absurd h (by decide))
    refine li_3_2 14 dX3_comes_13 rfl ?_
    refine v_if_lt 28 17 dX3_comes_14 rfl rfl (fun h14 => ?_) (fun h14 => ?_)
    · refine v_bipush (v := (-2)) 30 dX3_comes_28 rfl kb_m2 ?_
      refine v_iret dX3_comes_30 rfl ?_
      rw [show comesF P (nI m) x = -2 from by unfold comesF; rw [kk_nI (by omega)]; exact (ifP_neg (fun z => z ⟨m, hm, rfl⟩)).trans (ifP_pos (Or.inl h14))] at hQ
      exact hQ _ hS FrC.rf
    · refine li_3_2 18 dX3_comes_17 rfl ?_
      refine la_3_0 19 dX3_comes_18 rfl ?_
      refine vg_X3_23 rfl 22 dX3_comes_19 rfl ?_
      refine v_cVI0 25 dX3_comes_22 rfl fvX1_allBits fiX1_allBits ml_X3_169 (seX1 hb0) rfl ⟨(Nat.le_of_ble_eq_true rfl), (Nat.le_of_ble_eq_true rfl)⟩ (Nat.le_of_ble_eq_true rfl) (Nat.le_of_ble_eq_true rfl) (c_X1_allBits hb0 hS.1 ⟨_, rfl, ?_⟩) rfl
      refine v_icmp_le 31 28 dX3_comes_25 rfl rfl (fun h25 => ?_) (fun h25 => ?_)
      · refine la_3_0 32 dX3_comes_31 rfl ?_
        refine vg_X3_23 rfl 35 dX3_comes_32 rfl ?_
        refine vg_X3_123 hb0 rfl 38 dX3_comes_35 rfl ?_
        refine li_3_1 39 dX3_comes_38 rfl ?_
        refine vlq_X1_fate hb0 hS.1 _ 40 dX3_comes_39 rfl rfl hm ?_
        refine v_if_ne 57 43 dX3_comes_40 rfl rfl (fun h40 => ?_) (fun h40 => ?_)
        · refine v_bipush (v := (-3)) 59 dX3_comes_57 rfl kb_m3 ?_
          refine v_iret dX3_comes_59 rfl ?_
          rw [show comesF P (nI m) x = -3 from by unfold comesF; rw [kk_nI (by omega)]; exact (ifP_neg (fun z => z ⟨m, hm, rfl⟩)).trans ((ifP_neg (fun z => z.elim h14 (fun z => z h25))).trans (ifP_pos (Or.inl h40)))] at hQ
          exact hQ _ hS FrC.rf
        · refine li_3_2 44 dX3_comes_43 rfl ?_
          refine la_3_0 45 dX3_comes_44 rfl ?_
          refine vg_X3_23 rfl 48 dX3_comes_45 rfl ?_
          refine v_cVI0 51 dX3_comes_48 rfl fvX1_freeBits fiX1_freeBits ml_X3_172 (seX1 hb0) rfl ⟨(Nat.le_of_ble_eq_true rfl), (Nat.le_of_ble_eq_true rfl)⟩ (Nat.le_of_ble_eq_true rfl) (Nat.le_of_ble_eq_true rfl) (c_X1_freeBits hb0 hS.1 ⟨_, rfl, ?_⟩) rfl
          refine v_iconst (v := (-1)) 52 dX3_comes_51 rfl ki_m1 ?_
          refine v_ixor 53 dX3_comes_52 rfl ?_
          refine v_iand 54 dX3_comes_53 rfl ?_
          refine v_if_eq 60 57 dX3_comes_54 rfl rfl (fun h54 => ?_) (fun h54 => ?_)
          · refine la_3_0 61 dX3_comes_60 rfl ?_
            refine li_3_1 62 dX3_comes_61 rfl ?_
            refine li_3_2 63 dX3_comes_62 rfl ?_
            refine v_cVI2 66 dX3_comes_63 rfl fvX3_tryToSend fiX3_tryToSend ml_X3_175 (seX3) rfl ⟨(Nat.le_of_ble_eq_true rfl), (Nat.le_of_ble_eq_true rfl)⟩ (Nat.le_of_ble_eq_true rfl) (Nat.le_of_ble_eq_true rfl) (c_X3_tryToSend hS hz hm hq5 hq9 (fun u1 hS1 G1 => ⟨_, rfl, ?_⟩)) rfl
            refine v_iret dX3_comes_66 rfl ?_
            rw [show comesF P (nI m) x = tryF P m x from by unfold comesF; rw [kk_nI (by omega)]; exact (ifP_neg (fun z => z ⟨m, hm, rfl⟩)).trans ((ifP_neg (fun z => z.elim h14 (fun z => z h25))).trans (ifP_neg (fun z => z.elim (fun z => z h40) (fun z => z h54))))] at hQ
            exact hQ _ hS1 G1
          · refine v_bipush (v := (-3)) 59 dX3_comes_57 rfl kb_m3 ?_
            refine v_iret dX3_comes_59 rfl ?_
            rw [show comesF P (nI m) x = -3 from by unfold comesF; rw [kk_nI (by omega)]; exact (ifP_neg (fun z => z ⟨m, hm, rfl⟩)).trans ((ifP_neg (fun z => z.elim h14 (fun z => z h25))).trans (ifP_pos (Or.inr h54)))] at hQ
            exact hQ _ hS FrC.rf
      · refine v_bipush (v := (-2)) 30 dX3_comes_28 rfl kb_m2 ?_
        refine v_iret dX3_comes_30 rfl ?_
        rw [show comesF P (nI m) x = -2 from by unfold comesF; rw [kk_nI (by omega)]; exact (ifP_neg (fun z => z ⟨m, hm, rfl⟩)).trans (ifP_pos (Or.inr h25))] at hQ
        exact hQ _ hS FrC.rf
  · refine v_if_ne 13 11 dX3_comes_8 rfl rfl (fun h => absurd rfl h) (fun _ => ?_)
    refine v_iconst (v := (-1)) 12 dX3_comes_11 rfl ki_m1 ?_
    refine v_iret dX3_comes_12 rfl ?_
    rw [show comesF P l x = -1 from ifP_pos q5] at hQ
    exact hQ _ hS FrC.rf

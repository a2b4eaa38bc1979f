def blockN (P : PT) (x : Int32) : Nat → Int32
  | 0 => x
  | i + 1 => blockN P x i ||| jtP P (blockN P x i) P.1.1
noncomputable def blockF (P : PT) (i : Int32) : Int32 := ifP (¬ inQ i P.1.1) (-1) (blockN P (1 <<< (i &&& 31)) P.1.1)
set_option maxHeartbeats 4000000 in
set_option maxRecDepth 100000 in
theorem c_X3_block {w : Wd} {P : PT} {T : TT} {A : AT} {U : Nat → Bool} {K : Nat → PT} {N : NT} {z : Int64} (hS : cS w P T A U K N z) {i : Int32} {Q : Option Value → Wd → Prop} (hQ : Q (some (.int (blockF P i))) w) : V mX3_block 0 [some (.ref 0), some (.int i), none, none] [] w Q := by
  have b5 := hS.1.2.2.2.2.1
  have b4 := hS.1.2.2.2.2.2.1
  have key : Q (some (.int (blockN P (1 <<< (i &&& 31)) P.1.1))) w → ∀ j, j ≤ P.1.1 → V mX3_block 19 [some (.ref 0), some (.int i), some (.int (blockN P (1 <<< (i &&& 31)) j)), some (.int (nI j))] [] w Q := by
    intro hQ
    refine up (fun j hj ih => ?_)
    refine li_4_3 20 dX3_block_19 rfl ?_
    refine la_4_0 21 dX3_block_20 rfl ?_
    refine vg_X3_23 rfl 24 dX3_block_21 rfl ?_
    refine vgq_X3_73 hb0 hS.1 rfl 27 dX3_block_24 rfl ?_
    refine v_icmp_ge 47 30 dX3_block_27 rfl rfl (fun h27 => ?_) (fun h27 => ?_)
    · obtain rfl := ge_eq h27 hj (by omega)
      refine li_4_2 48 dX3_block_47 rfl ?_
      refine v_iret dX3_block_48 rfl ?_
      exact hQ
    · have hlt := ge_lt h27 (by omega) (by omega)
      refine li_4_2 31 dX3_block_30 rfl ?_
      refine la_4_0 32 dX3_block_31 rfl ?_
      refine vg_X3_23 rfl 35 dX3_block_32 rfl ?_
      refine li_4_2 36 dX3_block_35 rfl ?_
      refine v_cVI1 39 dX3_block_36 rfl fvX1_joinedToAny fiX1_joinedToAny ml_X3_179 (seX1 hb0) rfl ⟨(Nat.le_of_ble_eq_true rfl), (Nat.le_of_ble_eq_true rfl)⟩ (Nat.le_of_ble_eq_true rfl) (Nat.le_of_ble_eq_true rfl) (c_X1_joinedToAny hb0 hS.1 ⟨_, rfl, ?_⟩) rfl
      refine v_ior 40 dX3_block_39 rfl ?_
      refine si_4_2 rfl 41 dX3_block_40 rfl rfl ?_
      refine icn_4_3 rfl 44 dX3_block_41 rfl rfl ?_
      refine v_goto 19 dX3_block_44 rfl ?_
      exact ih hlt
  refine la_4_0 1 dX3_block_0 rfl ?_
  refine vg_X3_23 rfl 4 dX3_block_1 rfl ?_
  refine li_4_1 5 dX3_block_4 rfl ?_
  refine v_cVI1 8 dX3_block_5 rfl fvX1_hasStamp fiX1_hasStamp ml_X3_79 (seX1 hb0) rfl ⟨(Nat.le_of_ble_eq_true rfl), (Nat.le_of_ble_eq_true rfl)⟩ (Nat.le_of_ble_eq_true rfl) (Nat.le_of_ble_eq_true rfl) (c_X1_hasStamp hb0 hS.1 (fun q5 => ⟨_, rfl, ?_⟩) (fun q5 => ⟨_, rfl, ?_⟩)) rfl
  · refine v_if_ne 13 11 dX3_block_8 rfl rfl (fun _ => ?_) (fun h => absurd h (by decide))
    refine v_iconst (v := 1) 14 dX3_block_13 rfl ki_1 ?_
    refine li_4_1 15 dX3_block_14 rfl ?_
    refine v_ishl 16 dX3_block_15 rfl ?_
    refine si_4_2 rfl 17 dX3_block_16 rfl rfl ?_
    refine v_iconst (v := 0) 18 dX3_block_17 rfl ki_0 ?_
    refine si_4_3 rfl 19 dX3_block_18 rfl rfl ?_
    exact key (by rw [show blockF P i = _ from ifP_neg (fun z => z q5)] at hQ; exact hQ) 0 (Nat.zero_le _)
  · refine v_if_ne 13 11 dX3_block_8 rfl rfl (fun h => absurd rfl h) (fun _ => ?_)
    refine v_iconst (v := (-1)) 12 dX3_block_11 rfl ki_m1 ?_
    refine v_iret dX3_block_12 rfl ?_
    rw [show blockF P i = -1 from ifP_pos q5] at hQ
    exact hQ
/-- what was seen from place i on agrees with an age a at first -/
def ageS (P : PT) (N : NT) (k : Nat) (a : Int32) (j : Nat) : Int32 := if P.2 2 k = 3 then a else a + nI (N.2.2.1 j)
def agr1 (P : PT) (N : NT) (k : Nat) (a : Int32) (j : Nat) : Bool := decide (¬ N.2.1 j = k) || (decide (ageS P N k a j < spanF (P.2 2 k) (P.2 1 k)) == N.2.2.2 j)
def agrN (P : PT) (N : NT) (k : Nat) (a : Int32) : Nat → Bool
  | 0 => true
  | j + 1 => agrN P N k a j && agr1 P N k a j
theorem agrN_f {P : PT} {N : NT} {k : Nat} {a : Int32} {j : Nat} (h : agr1 P N k a j = false) : ∀ n, j < n → agrN P N k a n = false
  | 0, q => absurd q (Nat.not_lt_zero j)
  | n + 1, q => by
    unfold agrN
    rcases Nat.lt_or_ge j n with z | z
    · rw [agrN_f h n z]; rfl
    · rw [show n = j by omega, h, Bool.and_false]
def boughtN (P : PT) (N : NT) (k : Nat) : Nat → Int32
  | 0 => 0
  | t + 1 => if agrN P N k (10 * nI t) N.1 then boughtN P N k t ||| 1 <<< (nI t &&& 31) else boughtN P N k t
noncomputable def boughtF (P : PT) (N : NT) (i : Int32) : Int32 := ifP (¬ inQ i P.1.1) (-1) (boughtN P N (kk i) 10)
theorem seen_ne {N : NT} (hN : ∀ j, j < N.1 → N.2.1 j < 1000) {j k : Nat} (hj : j < N.1) (hk : k < 1000) : nI (N.2.1 j) = nI k ↔ N.2.1 j = k := nI_eq (by have := hN j hj; omega) (by omega)
set_option maxHeartbeats 4000000 in
set_option maxRecDepth 100000 in
theorem c_X3_agrees {w : Wd} {P : PT} {T : TT} {A : AT} {U : Nat → Bool} {K : Nat → PT} {N : NT} {z : Int64} (hS : cS w P T A U K N z) (hN : ∀ j, j < N.1 → N.2.1 j < 1000) {k : Nat} (hk : k < P.1.1) {a : Int32} {Q : Option Value → Wd → Prop} (hT : agrN P N k a N.1 = true → Q (some (.int 1)) w) (hF : agrN P N k a N.1 = false → Q (some (.int 0)) w) : V mX3_agreesWithSeen 0 [some (.ref 0), some (.int (nI k)), some (.int a), none, none] [] w Q := by
  have b5 := hS.1.2.2.2.2.1
  have b4 := hS.1.2.2.2.2.2.1
  have b6 := hS.2.2.2.2.2.1.2.1
  have key : ∀ j, j ≤ N.1 → agrN P N k a j = true → V mX3_agreesWithSeen 2 [some (.ref 0), some (.int (nI k)), some (.int a), some (.int (nI j)), none] [] w Q := by
    refine up (P := fun j => agrN P N k a j = true → V mX3_agreesWithSeen 2 [some (.ref 0), some (.int (nI k)), some (.int a), some (.int (nI j)), none] [] w Q) (fun j hj ih => ?_)
    intro hv
    refine li_5_3 3 dX3_agreesWithSeen_2 rfl ?_
    refine la_5_0 4 dX3_agreesWithSeen_3 rfl ?_
    refine vg_X3_187 rfl 7 dX3_agreesWithSeen_4 rfl ?_
    rw [hS.2.2.2.2.2.1.1]
    refine v_icmp_ge 82 10 dX3_agreesWithSeen_7 rfl rfl (fun h7 => ?_) (fun h7 => ?_)
    · obtain rfl := ge_eq h7 hj (by omega)
      refine v_iconst (v := 1) 83 dX3_agreesWithSeen_82 rfl ki_1 ?_
      refine v_zret dX3_agreesWithSeen_83 rfl (Or.inr rfl) ?_
      exact hT hv
    · have hlt := ge_lt h7 (by omega) (by omega)
      refine la_5_0 11 dX3_agreesWithSeen_10 rfl ?_
      refine vg_X3_46 rfl 14 dX3_agreesWithSeen_11 rfl ?_
      refine li_5_3 15 dX3_agreesWithSeen_14 rfl ?_
      refine vl_X3_seenStamp _ 16 dX3_agreesWithSeen_15 rfl rfl (by omega) ?_
      rw [(hS.2.2.2.2.2.1.2.2 j hlt).1]
      refine li_5_1 17 dX3_agreesWithSeen_16 rfl ?_
      refine v_icmp_ne 76 20 dX3_agreesWithSeen_17 rfl rfl (fun h17 => ?_) (fun h17 => ?_)
      · rw [seen_ne hN hlt (by omega)] at h17
        refine icn_5_3 rfl 79 dX3_agreesWithSeen_76 rfl rfl ?_
        refine v_goto 2 dX3_agreesWithSeen_79 rfl ?_
        refine ih hlt (by rw [agrN, hv, Bool.true_and]; unfold agr1; simp [h17])
      · rw [seen_ne hN hlt (by omega)] at h17
        refine la_5_0 21 dX3_agreesWithSeen_20 rfl ?_
        refine vg_X3_23 rfl 24 dX3_agreesWithSeen_21 rfl ?_
        refine vg_X3_89 hb0 rfl 27 dX3_agreesWithSeen_24 rfl ?_
        refine li_5_1 28 dX3_agreesWithSeen_27 rfl ?_
        refine vlq_X1_kind hb0 hS.1 _ 29 dX3_agreesWithSeen_28 rfl rfl hk ?_
        refine v_iconst (v := 3) 30 dX3_agreesWithSeen_29 rfl ki_3 ?_
        refine v_icmp_ne 37 33 dX3_agreesWithSeen_30 rfl rfl (fun h30 => ?_) (fun h30 => ?_)
        · have ea : ageS P N k a j = a + nI (N.2.2.1 j) := if_neg h30
          refine li_5_2 38 dX3_agreesWithSeen_37 rfl ?_
          refine la_5_0 39 dX3_agreesWithSeen_38 rfl ?_
          refine vg_X3_49 rfl 42 dX3_agreesWithSeen_39 rfl ?_
          refine li_5_3 43 dX3_agreesWithSeen_42 rfl ?_
          refine vl_X3_seenWeeks _ 44 dX3_agreesWithSeen_43 rfl rfl (by omega) ?_
          rw [(hS.2.2.2.2.2.1.2.2 j hlt).2.1]
          refine v_iadd 45 dX3_agreesWithSeen_44 rfl ?_
          refine si_5_4 rfl 47 dX3_agreesWithSeen_45 rfl rfl ?_
          refine li_5_4 49 dX3_agreesWithSeen_47 rfl ?_
          refine la_5_0 50 dX3_agreesWithSeen_49 rfl ?_
          refine vg_X3_23 rfl 53 dX3_agreesWithSeen_50 rfl ?_
          refine li_5_1 54 dX3_agreesWithSeen_53 rfl ?_
          refine v_cVI1 57 dX3_agreesWithSeen_54 rfl fvX1_span fiX1_span ml_X3_92 (seX1 hb0) rfl ⟨(Nat.le_of_ble_eq_true rfl), (Nat.le_of_ble_eq_true rfl)⟩ (Nat.le_of_ble_eq_true rfl) (Nat.le_of_ble_eq_true rfl) (c_X1_span hb0 hS.1 (by omega) ⟨_, rfl, ?_⟩) rfl
          refine v_icmp_ge 64 60 dX3_agreesWithSeen_57 rfl rfl (fun h57 => ?_) (fun h57 => ?_)
          · have g57 := i_nlt.mpr h57
            rw [← ea] at g57
            refine v_iconst (v := 0) 65 dX3_agreesWithSeen_64 rfl ki_0 ?_
            refine la_5_0 66 dX3_agreesWithSeen_65 rfl ?_
            refine vg_X3_52 rfl 69 dX3_agreesWithSeen_66 rfl ?_
            refine li_5_3 70 dX3_agreesWithSeen_69 rfl ?_
            refine vl_X3_seenAlive _ 71 dX3_agreesWithSeen_70 rfl rfl (by omega) ?_
            rw [(hS.2.2.2.2.2.1.2.2 j hlt).2.2]
            refine v_icmp_eq 76 74 dX3_agreesWithSeen_71 rfl rfl (fun h71 => ?_) (fun h71 => ?_)
            · refine icn_5_3 rfl 79 dX3_agreesWithSeen_76 rfl rfl ?_
              refine v_goto 2 dX3_agreesWithSeen_79 rfl ?_
              refine fg_5_4 ?_
              refine ih hlt (by rw [agrN, hv, Bool.true_and]; unfold agr1; simp only [g57, decide_true, decide_false]; cases q : N.2.2.2 j <;> simp [q, bI] at h71 ⊢)
            · refine v_iconst (v := 0) 75 dX3_agreesWithSeen_74 rfl ki_0 ?_
              refine v_zret dX3_agreesWithSeen_75 rfl (Or.inl rfl) ?_
              refine hF (agrN_f (j := j) ?_ _ hlt)
              unfold agr1
              simp only [h17, g57, decide_true, decide_false, not_true_eq_false, Bool.false_or]
              cases q : N.2.2.2 j <;> simp [q, bI] at h71 ⊢
          · have g57 := i_nle.mp h57
            rw [← ea] at g57
            refine v_iconst (v := 1) 61 dX3_agreesWithSeen_60 rfl ki_1 ?_
            refine v_goto 65 dX3_agreesWithSeen_61 rfl ?_
            refine la_5_0 66 dX3_agreesWithSeen_65 rfl ?_
            refine vg_X3_52 rfl 69 dX3_agreesWithSeen_66 rfl ?_
            refine li_5_3 70 dX3_agreesWithSeen_69 rfl ?_
            refine vl_X3_seenAlive _ 71 dX3_agreesWithSeen_70 rfl rfl (by omega) ?_
            rw [(hS.2.2.2.2.2.1.2.2 j hlt).2.2]
            refine v_icmp_eq 76 74 dX3_agreesWithSeen_71 rfl rfl (fun h71 => ?_) (fun h71 => ?_)
            · refine icn_5_3 rfl 79 dX3_agreesWithSeen_76 rfl rfl ?_
              refine v_goto 2 dX3_agreesWithSeen_79 rfl ?_
              refine fg_5_4 ?_
              refine ih hlt (by rw [agrN, hv, Bool.true_and]; unfold agr1; simp only [g57, decide_true, decide_false]; cases q : N.2.2.2 j <;> simp [q, bI] at h71 ⊢)
            · refine v_iconst (v := 0) 75 dX3_agreesWithSeen_74 rfl ki_0 ?_
              refine v_zret dX3_agreesWithSeen_75 rfl (Or.inl rfl) ?_
              refine hF (agrN_f (j := j) ?_ _ hlt)
              unfold agr1
              simp only [h17, g57, decide_true, decide_false, not_true_eq_false, Bool.false_or]
              cases q : N.2.2.2 j <;> simp [q, bI] at h71 ⊢
        · have ea : ageS P N k a j = a := if_pos h30
          refine li_5_2 34 dX3_agreesWithSeen_33 rfl ?_
          refine v_goto 45 dX3_agreesWithSeen_34 rfl ?_
          refine si_5_4 rfl 47 dX3_agreesWithSeen_45 rfl rfl ?_
          refine li_5_4 49 dX3_agreesWithSeen_47 rfl ?_
          refine la_5_0 50 dX3_agreesWithSeen_49 rfl ?_
          refine vg_X3_23 rfl 53 dX3_agreesWithSeen_50 rfl ?_
          refine li_5_1 54 dX3_agreesWithSeen_53 rfl ?_
          refine v_cVI1 57 dX3_agreesWithSeen_54 rfl fvX1_span fiX1_span ml_X3_92 (seX1 hb0) rfl ⟨(Nat.le_of_ble_eq_true rfl), (Nat.le_of_ble_eq_true rfl)⟩ (Nat.le_of_ble_eq_true rfl) (Nat.le_of_ble_eq_true rfl) (c_X1_span hb0 hS.1 (by omega) ⟨_, rfl, ?_⟩) rfl
          refine v_icmp_ge 64 60 dX3_agreesWithSeen_57 rfl rfl (fun h57 => ?_) (fun h57 => ?_)
          · have g57 := i_nlt.mpr h57
            rw [← ea] at g57
            refine v_iconst (v := 0) 65 dX3_agreesWithSeen_64 rfl ki_0 ?_
            refine la_5_0 66 dX3_agreesWithSeen_65 rfl ?_
            refine vg_X3_52 rfl 69 dX3_agreesWithSeen_66 rfl ?_
            refine li_5_3 70 dX3_agreesWithSeen_69 rfl ?_
            refine vl_X3_seenAlive _ 71 dX3_agreesWithSeen_70 rfl rfl (by omega) ?_
            rw [(hS.2.2.2.2.2.1.2.2 j hlt).2.2]
            refine v_icmp_eq 76 74 dX3_agreesWithSeen_71 rfl rfl (fun h71 => ?_) (fun h71 => ?_)
            · refine icn_5_3 rfl 79 dX3_agreesWithSeen_76 rfl rfl ?_
              refine v_goto 2 dX3_agreesWithSeen_79 rfl ?_
              refine fg_5_4 ?_
              refine ih hlt (by rw [agrN, hv, Bool.true_and]; unfold agr1; simp only [g57, decide_true, decide_false]; cases q : N.2.2.2 j <;> simp [q, bI] at h71 ⊢)
            · refine v_iconst (v := 0) 75 dX3_agreesWithSeen_74 rfl ki_0 ?_
              refine v_zret dX3_agreesWithSeen_75 rfl (Or.inl rfl) ?_
              refine hF (agrN_f (j := j) ?_ _ hlt)
              unfold agr1
              simp only [h17, g57, decide_true, decide_false, not_true_eq_false, Bool.false_or]
              cases q : N.2.2.2 j <;> simp [q, bI] at h71 ⊢
          · have g57 := i_nle.mp h57
            rw [← ea] at g57
            refine v_iconst (v := 1) 61 dX3_agreesWithSeen_60 rfl ki_1 ?_
            refine v_goto 65 dX3_agreesWithSeen_61 rfl ?_
            refine la_5_0 66 dX3_agreesWithSeen_65 rfl ?_
            refine vg_X3_52 rfl 69 dX3_agreesWithSeen_66 rfl ?_
            refine li_5_3 70 dX3_agreesWithSeen_69 rfl ?_
            refine vl_X3_seenAlive _ 71 dX3_agreesWithSeen_70 rfl rfl (by omega) ?_
            rw [(hS.2.2.2.2.2.1.2.2 j hlt).2.2]
            refine v_icmp_eq 76 74 dX3_agreesWithSeen_71 rfl rfl (fun h71 => ?_) (fun h71 => ?_)
            · refine icn_5_3 rfl 79 dX3_agreesWithSeen_76 rfl rfl ?_
              refine v_goto 2 dX3_agreesWithSeen_79 rfl ?_
              refine fg_5_4 ?_
              refine ih hlt (by rw [agrN, hv, Bool.true_and]; unfold agr1; simp only [g57, decide_true, decide_false]; cases q : N.2.2.2 j <;> simp [q, bI] at h71 ⊢)
            · refine v_iconst (v := 0) 75 dX3_agreesWithSeen_74 rfl ki_0 ?_
              refine v_zret dX3_agreesWithSeen_75 rfl (Or.inl rfl) ?_
              refine hF (agrN_f (j := j) ?_ _ hlt)
              unfold agr1
              simp only [h17, g57, decide_true, decide_false, not_true_eq_false, Bool.false_or]
              cases q : N.2.2.2 j <;> simp [q, bI] at h71 ⊢
  refine v_iconst (v := 0) 1 dX3_agreesWithSeen_0 rfl ki_0 ?_
  refine si_5_3 rfl 2 dX3_agreesWithSeen_1 rfl rfl ?_
  exact key 0 (Nat.zero_le _) rfl
theorem le9 {i : Nat} (hi : i ≤ 10) (h : ¬ 9 < nI i) : i < 10 := by
  rw [i_lt, nI_toInt (by omega)] at h
  have : (9 : Int32).toInt = 9 := by decide
  omega
theorem gt9 {i : Nat} (hi : i ≤ 10) (h : 9 < nI i) : i = 10 := by
  rw [i_lt, nI_toInt (by omega)] at h
  have : (9 : Int32).toInt = 9 := by decide
  omega
set_option maxHeartbeats 4000000 in
set_option maxRecDepth 100000 in
theorem c_X3_bought {w : Wd} {P : PT} {T : TT} {A : AT} {U : Nat → Bool} {K : Nat → PT} {N : NT} {z : Int64} (hS : cS w P T A U K N z) (hN : ∀ j, j < N.1 → N.2.1 j < 1000) {i : Int32} {Q : Option Value → Wd → Prop} (hQ : Q (some (.int (boughtF P N i))) w) : V mX3_bought 0 [some (.ref 0), some (.int i), none, none] [] w Q := by
  have b5 := hS.1.2.2.2.2.1
  have b4 := hS.1.2.2.2.2.2.1
  have key : ∀ k, k < P.1.1 → Q (some (.int (boughtN P N k 10))) w → ∀ j, j ≤ 10 → V mX3_bought 17 [some (.ref 0), some (.int (nI k)), some (.int (boughtN P N k j)), some (.int (nI j))] [] w Q := by
    intro k hk hQ
    refine up (fun j hj ih => ?_)
    refine li_4_3 18 dX3_bought_17 rfl ?_
    refine v_bipush (v := 9) 20 dX3_bought_18 rfl kb_9 ?_
    refine v_icmp_gt 47 23 dX3_bought_20 rfl rfl (fun h20 => ?_) (fun h20 => ?_)
    · obtain rfl := gt9 hj h20
      refine li_4_2 48 dX3_bought_47 rfl ?_
      refine v_iret dX3_bought_48 rfl ?_
      exact hQ
    · have hlt := le9 hj h20
      refine la_4_0 24 dX3_bought_23 rfl ?_
      refine li_4_1 25 dX3_bought_24 rfl ?_
      refine v_bipush (v := 10) 27 dX3_bought_25 rfl kb_10 ?_
      refine li_4_3 28 dX3_bought_27 rfl ?_
      refine v_imul 29 dX3_bought_28 rfl ?_
      refine v_cVI2 32 dX3_bought_29 rfl fvX3_agreesWithSeen fiX3_agreesWithSeen ml_X3_190 (seX3) rfl ⟨(Nat.le_of_ble_eq_true rfl), (Nat.le_of_ble_eq_true rfl)⟩ (Nat.le_of_ble_eq_true rfl) (Nat.le_of_ble_eq_true rfl) (c_X3_agrees hS hN hk (fun q29 => ⟨_, rfl, ?_⟩) (fun q29 => ⟨_, rfl, ?_⟩)) rfl
      · refine v_if_eq 41 35 dX3_bought_32 rfl rfl (fun h => absurd h (by decide)) (fun _ => ?_)
        refine li_4_2 36 dX3_bought_35 rfl ?_
        refine v_iconst (v := 1) 37 dX3_bought_36 rfl ki_1 ?_
        refine li_4_3 38 dX3_bought_37 rfl ?_
        refine v_ishl 39 dX3_bought_38 rfl ?_
        refine v_ior 40 dX3_bought_39 rfl ?_
        refine si_4_2 rfl 41 dX3_bought_40 rfl rfl ?_
        refine icn_4_3 rfl 44 dX3_bought_41 rfl rfl ?_
        refine v_goto 17 dX3_bought_44 rfl ?_
        have e := ih hlt
        simp only [boughtN, q29, reduceIte, Bool.false_eq_true] at e
        exact e
      · refine v_if_eq 41 35 dX3_bought_32 rfl rfl (fun _ => ?_) (fun h => absurd rfl h)
        refine icn_4_3 rfl 44 dX3_bought_41 rfl rfl ?_
        refine v_goto 17 dX3_bought_44 rfl ?_
        have e := ih hlt
        simp only [boughtN, q29, reduceIte, Bool.false_eq_true] at e
        exact e
  refine la_4_0 1 dX3_bought_0 rfl ?_
  refine vg_X3_23 rfl 4 dX3_bought_1 rfl ?_
  refine li_4_1 5 dX3_bought_4 rfl ?_
  refine v_cVI1 8 dX3_bought_5 rfl fvX1_hasStamp fiX1_hasStamp ml_X3_79 (seX1 hb0) rfl ⟨(Nat.le_of_ble_eq_true rfl), (Nat.le_of_ble_eq_true rfl)⟩ (Nat.le_of_ble_eq_true rfl) (Nat.le_of_ble_eq_true rfl) (c_X1_hasStamp hb0 hS.1 (fun q5 => ⟨_, rfl, ?_⟩) (fun q5 => ⟨_, rfl, ?_⟩)) rfl
  · obtain ⟨k, hk, rfl⟩ := q5
    refine v_if_ne 13 11 dX3_bought_8 rfl rfl (fun _ => ?_) (fun h => absurd h (by decide))
    refine v_iconst (v := 0) 14 dX3_bought_13 rfl ki_0 ?_
    refine si_4_2 rfl 15 dX3_bought_14 rfl rfl ?_
    refine v_iconst (v := 0) 16 dX3_bought_15 rfl ki_0 ?_
    refine si_4_3 rfl 17 dX3_bought_16 rfl rfl ?_
    exact key k hk (by rw [show boughtF P N (nI k) = boughtN P N k 10 from by unfold boughtF; rw [kk_nI (by omega)]; exact ifP_neg (fun q => q ⟨k, hk, rfl⟩)] at hQ; exact hQ) 0 (Nat.zero_le _)
  · refine v_if_ne 13 11 dX3_bought_8 rfl rfl (fun h => absurd rfl h) (fun _ => ?_)
    refine v_iconst (v := (-1)) 12 dX3_bought_11 rfl ki_m1 ?_
    refine v_iret dX3_bought_12 rfl ?_
    rw [show boughtF P N i = -1 from ifP_pos q5] at hQ
    exact hQ

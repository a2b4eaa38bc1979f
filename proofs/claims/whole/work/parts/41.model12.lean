set_option maxHeartbeats 4000000 in
set_option maxRecDepth 100000 in
theorem c_X4_bought {w : Wd} {P : PT} {T : TT} {A : AT} {U : Nat → Bool} {K : Nat → PT} {N : NT} {z : Int64} (hS : mS w P T A U K N z) (hN : ∀ j, j < N.1 → N.2.1 j < 1000) {i : Int32} {Q : Option Value → Wd → Prop} (hQ : Q (some (.int (boughtF P N i))) w) : V mX4_bought 0 [some (.ref 1), some (.int i), none, none, none, none, none] [] w Q := by
  have b5 := hS.1.2.2.1
  have b4 := hS.1.2.2.2.1
  have b6 := hS.2.2.2.2.2.1.2.1
  have inner : ∀ k t s, k < P.1.1 → t < 10 → V mX4_bought 127 [some (.ref 1), some (.int (nI k)), some (.int s), some (.int (nI t)), some (.int (bI (agrN P N k (10 * nI t) N.1))), none, none] [] w Q → ∀ j, j ≤ N.1 → V mX4_bought 26 [some (.ref 1), some (.int (nI k)), some (.int s), some (.int (nI t)), some (.int (bI (agrN P N k (10 * nI t) j))), some (.int (nI j)), none] [] w Q := by
    intro k t s hk ht hend
    refine up (fun j hj ih => ?_)
    refine li_7_5 28 dX4_bought_26 rfl ?_
    refine la_7_0 29 dX4_bought_28 rfl ?_
    refine vg_X4_193 rfl 32 dX4_bought_29 rfl ?_
    rw [hS.2.2.2.2.2.1.1]
    refine v_icmp_ge 127 35 dX4_bought_32 rfl rfl (fun h32 => ?_) (fun h32 => ?_)
    · obtain rfl := ge_eq h32 hj (by omega)
      refine fg_7_5 ?_
      exact hend
    · have hlt := ge_lt h32 (by omega) (by omega)
      refine v_bipush (v := 10) 37 dX4_bought_35 rfl kb_10 ?_
      refine li_7_3 38 dX4_bought_37 rfl ?_
      refine v_imul 39 dX4_bought_38 rfl ?_
      refine la_7_0 40 dX4_bought_39 rfl ?_
      refine vg_X4_7 rfl 43 dX4_bought_40 rfl ?_
      refine li_7_1 44 dX4_bought_43 rfl ?_
      refine vmn_2 hS.1 hb0 _ 45 dX4_bought_44 rfl rfl hk ?_
      refine v_iconst (v := 3) 46 dX4_bought_45 rfl ki_3 ?_
      refine v_icmp_ne 53 49 dX4_bought_46 rfl rfl (fun h46 => ?_) (fun h46 => ?_)
      · have ea : ageS P N k (10 * nI t) j = 10 * nI t + nI (N.2.2.1 j) := if_neg h46
        refine la_7_0 54 dX4_bought_53 rfl ?_
        refine vg_X4_37 rfl 57 dX4_bought_54 rfl ?_
        refine li_7_5 59 dX4_bought_57 rfl ?_
        refine vl_X4_seenAfter _ 60 dX4_bought_59 rfl rfl (by omega) ?_
        rw [(hS.2.2.2.2.2.1.2.2 j hlt).2.1]
        refine v_iadd 61 dX4_bought_60 rfl ?_
        refine si_7_6 rfl 63 dX4_bought_61 rfl rfl ?_
        refine li_7_4 65 dX4_bought_63 rfl ?_
        refine v_if_eq 118 68 dX4_bought_65 rfl rfl (fun h65 => ?_) (fun h65 => ?_)
        · have gj : agrN P N k (10 * nI t) j = false := by cases kq : agrN P N k (10 * nI t) j <;> simp [kq, bI] at h65 ⊢
          refine v_iconst (v := 0) 119 dX4_bought_118 rfl ki_0 ?_
          refine si_7_4 rfl 121 dX4_bought_119 rfl rfl ?_
          refine icn_7_5 rfl 124 dX4_bought_121 rfl rfl ?_
          refine v_goto 26 dX4_bought_124 rfl ?_
          refine fg_7_6 ?_
          have g : agrN P N k (10 * nI t) (j + 1) = false := by rw [agrN, gj]; rfl
          have e := ih hlt
          rw [g] at e
          exact e
        · have gj : agrN P N k (10 * nI t) j = true := by cases kq : agrN P N k (10 * nI t) j <;> simp [kq, bI] at h65 ⊢
          refine la_7_0 69 dX4_bought_68 rfl ?_
          refine vg_X4_34 rfl 72 dX4_bought_69 rfl ?_
          refine li_7_5 74 dX4_bought_72 rfl ?_
          refine vl_X4_seenOf _ 75 dX4_bought_74 rfl rfl (by omega) ?_
          rw [(hS.2.2.2.2.2.1.2.2 j hlt).1]
          refine li_7_1 76 dX4_bought_75 rfl ?_
          refine v_icmp_ne 114 79 dX4_bought_76 rfl rfl (fun h76 => ?_) (fun h76 => ?_)
          · rw [seen_ne hN hlt (by omega)] at h76
            refine v_iconst (v := 1) 115 dX4_bought_114 rfl ki_1 ?_
            refine v_goto 119 dX4_bought_115 rfl ?_
            refine si_7_4 rfl 121 dX4_bought_119 rfl rfl ?_
            refine icn_7_5 rfl 124 dX4_bought_121 rfl rfl ?_
            refine v_goto 26 dX4_bought_124 rfl ?_
            refine fg_7_6 ?_
            have g : agrN P N k (10 * nI t) (j + 1) = true := by rw [agrN, gj, Bool.true_and]; unfold agr1; simp [h76]
            have e := ih hlt
            rw [g] at e
            exact e
          · rw [seen_ne hN hlt (by omega)] at h76
            refine li_7_6 81 dX4_bought_79 rfl ?_
            refine la_7_0 82 dX4_bought_81 rfl ?_
            refine v_iconst (v := 0) 83 dX4_bought_82 rfl ki_0 ?_
            refine li_7_1 84 dX4_bought_83 rfl ?_
            refine v_cVI2 87 dX4_bought_84 rfl fvX4_span fiX4_span ml_X4_105 (seX4) rfl ⟨(Nat.le_of_ble_eq_true rfl), (Nat.le_of_ble_eq_true rfl)⟩ (Nat.le_of_ble_eq_true rfl) (Nat.le_of_ble_eq_true rfl) (c_X4_span (l := 0) hS.1 hb0 hk ⟨_, rfl, ?_⟩) rfl
            refine v_icmp_ge 94 90 dX4_bought_87 rfl rfl (fun h87 => ?_) (fun h87 => ?_)
            · have g87 := i_nlt.mpr h87
              rw [← ea] at g87
              refine v_iconst (v := 0) 95 dX4_bought_94 rfl ki_0 ?_
              refine la_7_0 96 dX4_bought_95 rfl ?_
              refine vg_X4_40 rfl 99 dX4_bought_96 rfl ?_
              refine li_7_5 101 dX4_bought_99 rfl ?_
              refine vl_X4_seenAlive _ 102 dX4_bought_101 rfl rfl (by omega) ?_
              rw [(hS.2.2.2.2.2.1.2.2 j hlt).2.2]
              refine v_iconst (v := 1) 103 dX4_bought_102 rfl ki_1 ?_
              refine v_icmp_ne 110 106 dX4_bought_103 rfl rfl (fun h103 => ?_) (fun h103 => ?_)
              · refine v_iconst (v := 0) 111 dX4_bought_110 rfl ki_0 ?_
                refine v_icmp_ne 118 114 dX4_bought_111 rfl rfl (fun h => absurd rfl h) (fun _ => ?_)
                refine v_iconst (v := 1) 115 dX4_bought_114 rfl ki_1 ?_
                refine v_goto 119 dX4_bought_115 rfl ?_
                refine si_7_4 rfl 121 dX4_bought_119 rfl rfl ?_
                refine icn_7_5 rfl 124 dX4_bought_121 rfl rfl ?_
                refine v_goto 26 dX4_bought_124 rfl ?_
                refine fg_7_6 ?_
                have g : agrN P N k (10 * nI t) (j + 1) = true := by rw [agrN, gj, Bool.true_and]; unfold agr1; simp only [h76, g87, decide_true, decide_false, not_true_eq_false, Bool.false_or]; cases kq : N.2.2.2 j <;> simp [kq, bI] at h103 ⊢
                have e := ih hlt
                rw [g] at e
                exact e
              · refine v_iconst (v := 1) 107 dX4_bought_106 rfl ki_1 ?_
                refine v_goto 111 dX4_bought_107 rfl ?_
                refine v_icmp_ne 118 114 dX4_bought_111 rfl rfl (fun _ => ?_) (fun h => absurd h (by decide))
                refine v_iconst (v := 0) 119 dX4_bought_118 rfl ki_0 ?_
                refine si_7_4 rfl 121 dX4_bought_119 rfl rfl ?_
                refine icn_7_5 rfl 124 dX4_bought_121 rfl rfl ?_
                refine v_goto 26 dX4_bought_124 rfl ?_
                refine fg_7_6 ?_
                have g : agrN P N k (10 * nI t) (j + 1) = false := by rw [agrN, gj, Bool.true_and]; unfold agr1; simp only [h76, g87, decide_true, decide_false, not_true_eq_false, Bool.false_or]; cases kq : N.2.2.2 j <;> simp [kq, bI] at h103 ⊢
                have e := ih hlt
                rw [g] at e
                exact e
            · have g87 := i_nle.mp h87
              rw [← ea] at g87
              refine v_iconst (v := 1) 91 dX4_bought_90 rfl ki_1 ?_
              refine v_goto 95 dX4_bought_91 rfl ?_
              refine la_7_0 96 dX4_bought_95 rfl ?_
              refine vg_X4_40 rfl 99 dX4_bought_96 rfl ?_
              refine li_7_5 101 dX4_bought_99 rfl ?_
              refine vl_X4_seenAlive _ 102 dX4_bought_101 rfl rfl (by omega) ?_
              rw [(hS.2.2.2.2.2.1.2.2 j hlt).2.2]
              refine v_iconst (v := 1) 103 dX4_bought_102 rfl ki_1 ?_
              refine v_icmp_ne 110 106 dX4_bought_103 rfl rfl (fun h103 => ?_) (fun h103 => ?_)
              · refine v_iconst (v := 0) 111 dX4_bought_110 rfl ki_0 ?_
                refine v_icmp_ne 118 114 dX4_bought_111 rfl rfl (fun _ => ?_) (fun h => absurd h (by decide))
                refine v_iconst (v := 0) 119 dX4_bought_118 rfl ki_0 ?_
                refine si_7_4 rfl 121 dX4_bought_119 rfl rfl ?_
                refine icn_7_5 rfl 124 dX4_bought_121 rfl rfl ?_
                refine v_goto 26 dX4_bought_124 rfl ?_
                refine fg_7_6 ?_
                have g : agrN P N k (10 * nI t) (j + 1) = false := by rw [agrN, gj, Bool.true_and]; unfold agr1; simp only [h76, g87, decide_true, decide_false, not_true_eq_false, Bool.false_or]; cases kq : N.2.2.2 j <;> simp [kq, bI] at h103 ⊢
                have e := ih hlt
                rw [g] at e
                exact e
              · refine v_iconst (v := 1) 107 dX4_bought_106 rfl ki_1 ?_
                refine v_goto 111 dX4_bought_107 rfl ?_
                refine v_icmp_ne 118 114 dX4_bought_111 rfl rfl (fun h => absurd rfl h) (fun _ => ?_)
                refine v_iconst (v := 1) 115 dX4_bought_114 rfl ki_1 ?_
                refine v_goto 119 dX4_bought_115 rfl ?_
                refine si_7_4 rfl 121 dX4_bought_119 rfl rfl ?_
                refine icn_7_5 rfl 124 dX4_bought_121 rfl rfl ?_
                refine v_goto 26 dX4_bought_124 rfl ?_
                refine fg_7_6 ?_
                have g : agrN P N k (10 * nI t) (j + 1) = true := by rw [agrN, gj, Bool.true_and]; unfold agr1; simp only [h76, g87, decide_true, decide_false, not_true_eq_false, Bool.false_or]; cases kq : N.2.2.2 j <;> simp [kq, bI] at h103 ⊢
                have e := ih hlt
                rw [g] at e
                exact e
      · have ea : ageS P N k (10 * nI t) j = 10 * nI t + 0 := by rw [Int32.add_zero]; exact if_pos h46
        refine v_iconst (v := 0) 50 dX4_bought_49 rfl ki_0 ?_
        refine v_goto 60 dX4_bought_50 rfl ?_
        skip
        refine v_iadd 61 dX4_bought_60 rfl ?_
        refine si_7_6 rfl 63 dX4_bought_61 rfl rfl ?_
        refine li_7_4 65 dX4_bought_63 rfl ?_
        refine v_if_eq 118 68 dX4_bought_65 rfl rfl (fun h65 => ?_) (fun h65 => ?_)
        · have gj : agrN P N k (10 * nI t) j = false := by cases kq : agrN P N k (10 * nI t) j <;> simp [kq, bI] at h65 ⊢
          refine v_iconst (v := 0) 119 dX4_bought_118 rfl ki_0 ?_
          refine si_7_4 rfl 121 dX4_bought_119 rfl rfl ?_
          refine icn_7_5 rfl 124 dX4_bought_121 rfl rfl ?_
          refine v_goto 26 dX4_bought_124 rfl ?_
          refine fg_7_6 ?_
          have g : agrN P N k (10 * nI t) (j + 1) = false := by rw [agrN, gj]; rfl
          have e := ih hlt
          rw [g] at e
          exact e
        · have gj : agrN P N k (10 * nI t) j = true := by cases kq : agrN P N k (10 * nI t) j <;> simp [kq, bI] at h65 ⊢
          refine la_7_0 69 dX4_bought_68 rfl ?_
          refine vg_X4_34 rfl 72 dX4_bought_69 rfl ?_
          refine li_7_5 74 dX4_bought_72 rfl ?_
          refine vl_X4_seenOf _ 75 dX4_bought_74 rfl rfl (by omega) ?_
          rw [(hS.2.2.2.2.2.1.2.2 j hlt).1]
          refine li_7_1 76 dX4_bought_75 rfl ?_
          refine v_icmp_ne 114 79 dX4_bought_76 rfl rfl (fun h76 => ?_) (fun h76 => ?_)
          · rw [seen_ne hN hlt (by omega)] at h76
            refine v_iconst (v := 1) 115 dX4_bought_114 rfl ki_1 ?_
            refine v_goto 119 dX4_bought_115 rfl ?_
            refine si_7_4 rfl 121 dX4_bought_119 rfl rfl ?_
            refine icn_7_5 rfl 124 dX4_bought_121 rfl rfl ?_
            refine v_goto 26 dX4_bought_124 rfl ?_
            refine fg_7_6 ?_
            have g : agrN P N k (10 * nI t) (j + 1) = true := by rw [agrN, gj, Bool.true_and]; unfold agr1; simp [h76]
            have e := ih hlt
            rw [g] at e
            exact e
          · rw [seen_ne hN hlt (by omega)] at h76
            refine li_7_6 81 dX4_bought_79 rfl ?_
            refine la_7_0 82 dX4_bought_81 rfl ?_
            refine v_iconst (v := 0) 83 dX4_bought_82 rfl ki_0 ?_
            refine li_7_1 84 dX4_bought_83 rfl ?_
            refine v_cVI2 87 dX4_bought_84 rfl fvX4_span fiX4_span ml_X4_105 (seX4) rfl ⟨(Nat.le_of_ble_eq_true rfl), (Nat.le_of_ble_eq_true rfl)⟩ (Nat.le_of_ble_eq_true rfl) (Nat.le_of_ble_eq_true rfl) (c_X4_span (l := 0) hS.1 hb0 hk ⟨_, rfl, ?_⟩) rfl
            refine v_icmp_ge 94 90 dX4_bought_87 rfl rfl (fun h87 => ?_) (fun h87 => ?_)
            · have g87 := i_nlt.mpr h87
              rw [← ea] at g87
              refine v_iconst (v := 0) 95 dX4_bought_94 rfl ki_0 ?_
              refine la_7_0 96 dX4_bought_95 rfl ?_
              refine vg_X4_40 rfl 99 dX4_bought_96 rfl ?_
              refine li_7_5 101 dX4_bought_99 rfl ?_
              refine vl_X4_seenAlive _ 102 dX4_bought_101 rfl rfl (by omega) ?_
              rw [(hS.2.2.2.2.2.1.2.2 j hlt).2.2]
              refine v_iconst (v := 1) 103 dX4_bought_102 rfl ki_1 ?_
              refine v_icmp_ne 110 106 dX4_bought_103 rfl rfl (fun h103 => ?_) (fun h103 => ?_)
              · refine v_iconst (v := 0) 111 dX4_bought_110 rfl ki_0 ?_
                refine v_icmp_ne 118 114 dX4_bought_111 rfl rfl (fun h => absurd rfl h) (fun _ => ?_)
                refine v_iconst (v := 1) 115 dX4_bought_114 rfl ki_1 ?_
                refine v_goto 119 dX4_bought_115 rfl ?_
                refine si_7_4 rfl 121 dX4_bought_119 rfl rfl ?_
                refine icn_7_5 rfl 124 dX4_bought_121 rfl rfl ?_
                refine v_goto 26 dX4_bought_124 rfl ?_
                refine fg_7_6 ?_
                have g : agrN P N k (10 * nI t) (j + 1) = true := by rw [agrN, gj, Bool.true_and]; unfold agr1; simp only [h76, g87, decide_true, decide_false, not_true_eq_false, Bool.false_or]; cases kq : N.2.2.2 j <;> simp [kq, bI] at h103 ⊢
                have e := ih hlt
                rw [g] at e
                exact e
              · refine v_iconst (v := 1) 107 dX4_bought_106 rfl ki_1 ?_
                refine v_goto 111 dX4_bought_107 rfl ?_
                refine v_icmp_ne 118 114 dX4_bought_111 rfl rfl (fun _ => ?_) (fun h => absurd h (by decide))
                refine v_iconst (v := 0) 119 dX4_bought_118 rfl ki_0 ?_
                refine si_7_4 rfl 121 dX4_bought_119 rfl rfl ?_
                refine icn_7_5 rfl 124 dX4_bought_121 rfl rfl ?_
                refine v_goto 26 dX4_bought_124 rfl ?_
                refine fg_7_6 ?_
                have g : agrN P N k (10 * nI t) (j + 1) = false := by rw [agrN, gj, Bool.true_and]; unfold agr1; simp only [h76, g87, decide_true, decide_false, not_true_eq_false, Bool.false_or]; cases kq : N.2.2.2 j <;> simp [kq, bI] at h103 ⊢
                have e := ih hlt
                rw [g] at e
                exact e
            · have g87 := i_nle.mp h87
              rw [← ea] at g87
              refine v_iconst (v := 1) 91 dX4_bought_90 rfl ki_1 ?_
              refine v_goto 95 dX4_bought_91 rfl ?_
              refine la_7_0 96 dX4_bought_95 rfl ?_
              refine vg_X4_40 rfl 99 dX4_bought_96 rfl ?_
              refine li_7_5 101 dX4_bought_99 rfl ?_
              refine vl_X4_seenAlive _ 102 dX4_bought_101 rfl rfl (by omega) ?_
              rw [(hS.2.2.2.2.2.1.2.2 j hlt).2.2]
              refine v_iconst (v := 1) 103 dX4_bought_102 rfl ki_1 ?_
              refine v_icmp_ne 110 106 dX4_bought_103 rfl rfl (fun h103 => ?_) (fun h103 => ?_)
              · refine v_iconst (v := 0) 111 dX4_bought_110 rfl ki_0 ?_
                refine v_icmp_ne 118 114 dX4_bought_111 rfl rfl (fun _ => ?_) (fun h => absurd h (by decide))
                refine v_iconst (v := 0) 119 dX4_bought_118 rfl ki_0 ?_
                refine si_7_4 rfl 121 dX4_bought_119 rfl rfl ?_
                refine icn_7_5 rfl 124 dX4_bought_121 rfl rfl ?_
                refine v_goto 26 dX4_bought_124 rfl ?_
                refine fg_7_6 ?_
                have g : agrN P N k (10 * nI t) (j + 1) = false := by rw [agrN, gj, Bool.true_and]; unfold agr1; simp only [h76, g87, decide_true, decide_false, not_true_eq_false, Bool.false_or]; cases kq : N.2.2.2 j <;> simp [kq, bI] at h103 ⊢
                have e := ih hlt
                rw [g] at e
                exact e
              · refine v_iconst (v := 1) 107 dX4_bought_106 rfl ki_1 ?_
                refine v_goto 111 dX4_bought_107 rfl ?_
                refine v_icmp_ne 118 114 dX4_bought_111 rfl rfl (fun h => absurd rfl h) (fun _ => ?_)
                refine v_iconst (v := 1) 115 dX4_bought_114 rfl ki_1 ?_
                refine v_goto 119 dX4_bought_115 rfl ?_
                refine si_7_4 rfl 121 dX4_bought_119 rfl rfl ?_
                refine icn_7_5 rfl 124 dX4_bought_121 rfl rfl ?_
                refine v_goto 26 dX4_bought_124 rfl ?_
                refine fg_7_6 ?_
                have g : agrN P N k (10 * nI t) (j + 1) = true := by rw [agrN, gj, Bool.true_and]; unfold agr1; simp only [h76, g87, decide_true, decide_false, not_true_eq_false, Bool.false_or]; cases kq : N.2.2.2 j <;> simp [kq, bI] at h103 ⊢
                have e := ih hlt
                rw [g] at e
                exact e
  have key : ∀ k, k < P.1.1 → Q (some (.int (boughtN P N k 10))) w → ∀ t, t ≤ 10 → V mX4_bought 14 [some (.ref 1), some (.int (nI k)), some (.int (boughtN P N k t)), some (.int (nI t)), none, none, none] [] w Q := by
    intro k hk hQ
    refine up (fun t ht ih => ?_)
    refine li_7_3 15 dX4_bought_14 rfl ?_
    refine v_bipush (v := 10) 17 dX4_bought_15 rfl kb_10 ?_
    refine v_icmp_ge 148 20 dX4_bought_17 rfl rfl (fun h17 => ?_) (fun h17 => ?_)
    · obtain rfl := ge_eq (n := 10) h17 ht (by omega)
      refine li_7_2 149 dX4_bought_148 rfl ?_
      refine v_iret dX4_bought_149 rfl ?_
      exact hQ
    · have hlt := ge_lt (n := 10) h17 (by omega) (by omega)
      refine v_iconst (v := 1) 21 dX4_bought_20 rfl ki_1 ?_
      refine si_7_4 rfl 23 dX4_bought_21 rfl rfl ?_
      refine v_iconst (v := 0) 24 dX4_bought_23 rfl ki_0 ?_
      refine si_7_5 rfl 26 dX4_bought_24 rfl rfl ?_
      refine inner k t (boughtN P N k t) hk hlt ?_ 0 (Nat.zero_le _)
      refine li_7_2 128 dX4_bought_127 rfl ?_
      refine li_7_4 130 dX4_bought_128 rfl ?_
      refine v_if_eq 139 133 dX4_bought_130 rfl rfl (fun h130 => ?_) (fun h130 => ?_)
      · have gj : agrN P N k (10 * nI t) N.1 = false := by cases kq : agrN P N k (10 * nI t) N.1 <;> simp [kq, bI] at h130 ⊢
        refine v_iconst (v := 0) 140 dX4_bought_139 rfl ki_0 ?_
        refine v_ior 141 dX4_bought_140 rfl ?_
        refine si_7_2 rfl 142 dX4_bought_141 rfl rfl ?_
        refine icn_7_3 rfl 145 dX4_bought_142 rfl rfl ?_
        refine v_goto 14 dX4_bought_145 rfl ?_
        refine fg_7_4 ?_
        have e := ih hlt
        simp only [boughtN, gj, reduceIte, Bool.false_eq_true] at e
        rw [show boughtN P N k t ||| 0 = boughtN P N k t from Int32.or_zero]
        exact e
      · have gj : agrN P N k (10 * nI t) N.1 = true := by cases kq : agrN P N k (10 * nI t) N.1 <;> simp [kq, bI] at h130 ⊢
        refine v_iconst (v := 1) 134 dX4_bought_133 rfl ki_1 ?_
        refine li_7_3 135 dX4_bought_134 rfl ?_
        refine v_ishl 136 dX4_bought_135 rfl ?_
        refine v_goto 140 dX4_bought_136 rfl ?_
        refine v_ior 141 dX4_bought_140 rfl ?_
        refine si_7_2 rfl 142 dX4_bought_141 rfl rfl ?_
        refine icn_7_3 rfl 145 dX4_bought_142 rfl rfl ?_
        refine v_goto 14 dX4_bought_145 rfl ?_
        refine fg_7_4 ?_
        have e := ih hlt
        simp only [boughtN, gj, reduceIte] at e
        exact e
  refine la_7_0 1 dX4_bought_0 rfl ?_
  refine li_7_1 2 dX4_bought_1 rfl ?_
  refine v_cVI1 5 dX4_bought_2 rfl fvX4_isStamp fiX4_isStamp ml_X4_128 (seX4) rfl ⟨(Nat.le_of_ble_eq_true rfl), (Nat.le_of_ble_eq_true rfl)⟩ (Nat.le_of_ble_eq_true rfl) (Nat.le_of_ble_eq_true rfl) (c_X4_isStamp hS.1 hb0 (fun q2 => ⟨_, rfl, ?_⟩) (fun q2 => ⟨_, rfl, ?_⟩)) rfl
  · obtain ⟨k, hk, rfl⟩ := q2
    refine v_if_ne 10 8 dX4_bought_5 rfl rfl (fun _ => ?_) (fun h => absurd h (by decide))
    refine v_iconst (v := 0) 11 dX4_bought_10 rfl ki_0 ?_
    refine si_7_2 rfl 12 dX4_bought_11 rfl rfl ?_
    refine v_iconst (v := 0) 13 dX4_bought_12 rfl ki_0 ?_
    refine si_7_3 rfl 14 dX4_bought_13 rfl rfl ?_
    exact key k hk (by rw [show boughtF P N (nI k) = boughtN P N k 10 from by unfold boughtF; rw [kk_nI (by omega)]; exact ifP_neg (fun q => q ⟨k, hk, rfl⟩)] at hQ; exact hQ) 0 (Nat.zero_le _)
  · refine v_if_ne 10 8 dX4_bought_5 rfl rfl (fun h => absurd rfl h) (fun _ => ?_)
    refine v_iconst (v := (-1)) 9 dX4_bought_8 rfl ki_m1 ?_
    refine v_iret dX4_bought_9 rfl ?_
    rw [show boughtF P N i = -1 from ifP_pos q2] at hQ
    exact hQ

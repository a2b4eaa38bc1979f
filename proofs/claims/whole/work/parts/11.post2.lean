set_option maxHeartbeats 4000000 in
set_option maxRecDepth 100000 in
theorem c_X1_aliveBits {b : Nat} (hb : b < 2) {w : Wd} {P : PT} (hC : isC w b P) {Q : Option Value → Wd → Prop} (hQ : Q (some (.int (aliveP P))) w) : V mX1_aliveBits 0 [some (.ref (pr b)), none, none] [] w Q := by
  have h5 := hC.2.2.2.2.1
  have h4 := hC.2.2.2.2.2.1
  have key : ∀ i, i ≤ P.1.1 → V mX1_aliveBits 4 [some (.ref (pr b)), some (.int (orB (alP P) i)), some (.int (nI i))] [] w Q := by
    refine up (fun i hi ih => ?_)
    refine li_3_2 5 dX1_aliveBits_4 rfl ?_
    refine la_3_0 6 dX1_aliveBits_5 rfl ?_
    refine vgq_X1_36 hb hC rfl 9 dX1_aliveBits_6 rfl ?_
    refine v_icmp_ge 36 12 dX1_aliveBits_9 rfl rfl (fun h9 => ?_) (fun h9 => ?_)
    · obtain rfl := ge_eq h9 hi (by omega)
      refine li_3_1 37 dX1_aliveBits_36 rfl ?_
      refine v_iret dX1_aliveBits_37 rfl ?_
      exact hQ
    · have hlt := ge_lt h9 (by omega) (by omega)
      refine li_3_1 13 dX1_aliveBits_12 rfl ?_
      refine la_3_0 14 dX1_aliveBits_13 rfl ?_
      refine li_3_2 15 dX1_aliveBits_14 rfl ?_
      refine v_cVI1 18 dX1_aliveBits_15 rfl fvX1_isAlive fiX1_isAlive ml_X1_87 (seX1 hb) rfl ⟨(Nat.le_of_ble_eq_true rfl), (Nat.le_of_ble_eq_true rfl)⟩ (Nat.le_of_ble_eq_true rfl) (Nat.le_of_ble_eq_true rfl) (c_X1_isAlive hb hC (by omega) (fun q15 => ⟨_, rfl, ?_⟩) (fun q15 => ⟨_, rfl, ?_⟩)) rfl
      · refine v_if_eq 27 21 dX1_aliveBits_18 rfl rfl (fun h => absurd h (by decide)) (fun _ => ?_)
        refine v_iconst (v := 1) 22 dX1_aliveBits_21 rfl ki_1 ?_
        refine li_3_2 23 dX1_aliveBits_22 rfl ?_
        refine v_ishl 24 dX1_aliveBits_23 rfl ?_
        refine v_goto 28 dX1_aliveBits_24 rfl ?_
        refine v_ior 29 dX1_aliveBits_28 rfl ?_
        refine si_3_1 rfl 30 dX1_aliveBits_29 rfl rfl ?_
        refine icn_3_2 rfl 33 dX1_aliveBits_30 rfl rfl ?_
        refine v_goto 4 dX1_aliveBits_33 rfl ?_
        have e := ih hlt
        simp only [orB, suB, bit, q15, decide_true, decide_false, Bool.true_and, Bool.false_and, Bool.and_true, Bool.and_false, not_true_eq_false, not_false_eq_true, reduceIte, Bool.false_eq_true] at e
        exact e
      · refine v_if_eq 27 21 dX1_aliveBits_18 rfl rfl (fun _ => ?_) (fun h => absurd rfl h)
        refine v_iconst (v := 0) 28 dX1_aliveBits_27 rfl ki_0 ?_
        refine v_ior 29 dX1_aliveBits_28 rfl ?_
        refine si_3_1 rfl 30 dX1_aliveBits_29 rfl rfl ?_
        refine icn_3_2 rfl 33 dX1_aliveBits_30 rfl rfl ?_
        refine v_goto 4 dX1_aliveBits_33 rfl ?_
        have e := ih hlt
        simp only [orB, suB, bit, q15, decide_true, decide_false, Bool.true_and, Bool.false_and, Bool.and_true, Bool.and_false, not_true_eq_false, not_false_eq_true, reduceIte, Bool.false_eq_true] at e
        exact e
  refine v_iconst (v := 0) 1 dX1_aliveBits_0 rfl ki_0 ?_
  refine si_3_1 rfl 2 dX1_aliveBits_1 rfl rfl ?_
  refine v_iconst (v := 0) 3 dX1_aliveBits_2 rfl ki_0 ?_
  refine si_3_2 rfl 4 dX1_aliveBits_3 rfl rfl ?_
  exact key 0 (Nat.zero_le _)
set_option maxHeartbeats 4000000 in
set_option maxRecDepth 100000 in
theorem c_X1_widowBits {b : Nat} (hb : b < 2) {w : Wd} {P : PT} (hC : isC w b P) {Q : Option Value → Wd → Prop} (hQ : Q (some (.int (widP P))) w) : V mX1_widowBits 0 [some (.ref (pr b)), none, none, none, none] [] w Q := by
  have h5 := hC.2.2.2.2.1
  have h4 := hC.2.2.2.2.2.1
  have key : ∀ i, i ≤ P.1.1 → V mX1_widowBits 9 [some (.ref (pr b)), some (.int (aliveP P)), some (.int (orB (fun s => bit (aliveP P) s && decide (¬ P.2 3 s &&& (aliveP P ^^^ (-1)) = 0)) i)), some (.int (nI i)), none] [] w Q := by
    refine up (fun i hi ih => ?_)
    refine li_5_3 10 dX1_widowBits_9 rfl ?_
    refine la_5_0 11 dX1_widowBits_10 rfl ?_
    refine vgq_X1_36 hb hC rfl 14 dX1_widowBits_11 rfl ?_
    refine v_icmp_ge 67 17 dX1_widowBits_14 rfl rfl (fun h14 => ?_) (fun h14 => ?_)
    · obtain rfl := ge_eq h14 hi (by omega)
      refine li_5_2 68 dX1_widowBits_67 rfl ?_
      refine v_iret dX1_widowBits_68 rfl ?_
      exact hQ
    · have hlt := ge_lt h14 (by omega) (by omega)
      refine li_5_1 18 dX1_widowBits_17 rfl ?_
      refine li_5_3 19 dX1_widowBits_18 rfl ?_
      refine v_ishr 20 dX1_widowBits_19 rfl ?_
      refine v_iconst (v := 1) 21 dX1_widowBits_20 rfl ki_1 ?_
      refine v_iand 22 dX1_widowBits_21 rfl ?_
      refine v_iconst (v := 1) 23 dX1_widowBits_22 rfl ki_1 ?_
      refine v_icmp_ne 43 26 dX1_widowBits_23 rfl rfl (fun h23 => ?_) (fun h23 => ?_)
      · refine v_iconst (v := 0) 44 dX1_widowBits_43 rfl ki_0 ?_
        refine si_5_4 rfl 46 dX1_widowBits_44 rfl rfl ?_
        refine li_5_2 47 dX1_widowBits_46 rfl ?_
        refine li_5_4 49 dX1_widowBits_47 rfl ?_
        refine v_if_eq 58 52 dX1_widowBits_49 rfl rfl (fun _ => ?_) (fun h => absurd rfl h)
        refine v_iconst (v := 0) 59 dX1_widowBits_58 rfl ki_0 ?_
        refine v_ior 60 dX1_widowBits_59 rfl ?_
        refine si_5_2 rfl 61 dX1_widowBits_60 rfl rfl ?_
        refine icn_5_3 rfl 64 dX1_widowBits_61 rfl rfl ?_
        refine v_goto 9 dX1_widowBits_64 rfl ?_
        refine fg_5_4 ?_
        have e := ih hlt
        simp only [orB, suB, bit, h23, decide_true, decide_false, Bool.true_and, Bool.false_and, Bool.and_true, Bool.and_false, not_true_eq_false, not_false_eq_true, reduceIte, Bool.false_eq_true] at e
        exact e
      · refine la_5_0 27 dX1_widowBits_26 rfl ?_
        refine vg_X1_21 hb rfl 30 dX1_widowBits_27 rfl ?_
        refine li_5_3 31 dX1_widowBits_30 rfl ?_
        refine vlq_X1_joined hb hC _ 32 dX1_widowBits_31 rfl rfl (by omega) ?_
        refine li_5_1 33 dX1_widowBits_32 rfl ?_
        refine v_iconst (v := (-1)) 34 dX1_widowBits_33 rfl ki_m1 ?_
        refine v_ixor 35 dX1_widowBits_34 rfl ?_
        refine v_iand 36 dX1_widowBits_35 rfl ?_
        refine v_if_eq 43 39 dX1_widowBits_36 rfl rfl (fun h36 => ?_) (fun h36 => ?_)
        · refine v_iconst (v := 0) 44 dX1_widowBits_43 rfl ki_0 ?_
          refine si_5_4 rfl 46 dX1_widowBits_44 rfl rfl ?_
          refine li_5_2 47 dX1_widowBits_46 rfl ?_
          refine li_5_4 49 dX1_widowBits_47 rfl ?_
          refine v_if_eq 58 52 dX1_widowBits_49 rfl rfl (fun _ => ?_) (fun h => absurd rfl h)
          refine v_iconst (v := 0) 59 dX1_widowBits_58 rfl ki_0 ?_
          refine v_ior 60 dX1_widowBits_59 rfl ?_
          refine si_5_2 rfl 61 dX1_widowBits_60 rfl rfl ?_
          refine icn_5_3 rfl 64 dX1_widowBits_61 rfl rfl ?_
          refine v_goto 9 dX1_widowBits_64 rfl ?_
          refine fg_5_4 ?_
          have e := ih hlt
          simp only [orB, suB, bit, h23, h36, decide_true, decide_false, Bool.true_and, Bool.false_and, Bool.and_true, Bool.and_false, not_true_eq_false, not_false_eq_true, reduceIte, Bool.false_eq_true] at e
          exact e
        · refine v_iconst (v := 1) 40 dX1_widowBits_39 rfl ki_1 ?_
          refine v_goto 44 dX1_widowBits_40 rfl ?_
          refine si_5_4 rfl 46 dX1_widowBits_44 rfl rfl ?_
          refine li_5_2 47 dX1_widowBits_46 rfl ?_
          refine li_5_4 49 dX1_widowBits_47 rfl ?_
          refine v_if_eq 58 52 dX1_widowBits_49 rfl rfl (fun h => absurd h (by decide)) (fun _ => ?_)
          refine v_iconst (v := 1) 53 dX1_widowBits_52 rfl ki_1 ?_
          refine li_5_3 54 dX1_widowBits_53 rfl ?_
          refine v_ishl 55 dX1_widowBits_54 rfl ?_
          refine v_goto 59 dX1_widowBits_55 rfl ?_
          refine v_ior 60 dX1_widowBits_59 rfl ?_
          refine si_5_2 rfl 61 dX1_widowBits_60 rfl rfl ?_
          refine icn_5_3 rfl 64 dX1_widowBits_61 rfl rfl ?_
          refine v_goto 9 dX1_widowBits_64 rfl ?_
          refine fg_5_4 ?_
          have e := ih hlt
          simp only [orB, suB, bit, h23, h36, decide_true, decide_false, Bool.true_and, Bool.false_and, Bool.and_true, Bool.and_false, not_true_eq_false, not_false_eq_true, reduceIte, Bool.false_eq_true] at e
          exact e
  refine la_5_0 1 dX1_widowBits_0 rfl ?_
  refine v_cVI0 4 dX1_widowBits_1 rfl fvX1_aliveBits fiX1_aliveBits ml_X1_90 (seX1 hb) rfl ⟨(Nat.le_of_ble_eq_true rfl), (Nat.le_of_ble_eq_true rfl)⟩ (Nat.le_of_ble_eq_true rfl) (Nat.le_of_ble_eq_true rfl) (c_X1_aliveBits hb hC ⟨_, rfl, ?_⟩) rfl
  refine si_5_1 rfl 5 dX1_widowBits_4 rfl rfl ?_
  refine v_iconst (v := 0) 6 dX1_widowBits_5 rfl ki_0 ?_
  refine si_5_2 rfl 7 dX1_widowBits_6 rfl rfl ?_
  refine v_iconst (v := 0) 8 dX1_widowBits_7 rfl ki_0 ?_
  refine si_5_3 rfl 9 dX1_widowBits_8 rfl rfl ?_
  exact key 0 (Nat.zero_le _)
set_option maxHeartbeats 4000000 in
set_option maxRecDepth 100000 in
theorem c_X1_freeBits {b : Nat} (hb : b < 2) {w : Wd} {P : PT} (hC : isC w b P) {Q : Option Value → Wd → Prop} (hQ : Q (some (.int (freeP P))) w) : V mX1_freeBits 0 [some (.ref (pr b)), none, none] [] w Q := by
  have h5 := hC.2.2.2.2.1
  have h4 := hC.2.2.2.2.2.1
  have key : ∀ i, i ≤ P.1.1 → V mX1_freeBits 4 [some (.ref (pr b)), some (.int (orB (fun s => alP P s && decide (P.2 4 s = -9)) i)), some (.int (nI i))] [] w Q := by
    refine up (fun i hi ih => ?_)
    refine li_3_2 5 dX1_freeBits_4 rfl ?_
    refine la_3_0 6 dX1_freeBits_5 rfl ?_
    refine vgq_X1_36 hb hC rfl 9 dX1_freeBits_6 rfl ?_
    refine v_icmp_ge 47 12 dX1_freeBits_9 rfl rfl (fun h9 => ?_) (fun h9 => ?_)
    · obtain rfl := ge_eq h9 hi (by omega)
      refine li_3_1 48 dX1_freeBits_47 rfl ?_
      refine v_iret dX1_freeBits_48 rfl ?_
      exact hQ
    · have hlt := ge_lt h9 (by omega) (by omega)
      refine li_3_1 13 dX1_freeBits_12 rfl ?_
      refine la_3_0 14 dX1_freeBits_13 rfl ?_
      refine li_3_2 15 dX1_freeBits_14 rfl ?_
      refine v_cVI1 18 dX1_freeBits_15 rfl fvX1_isAlive fiX1_isAlive ml_X1_87 (seX1 hb) rfl ⟨(Nat.le_of_ble_eq_true rfl), (Nat.le_of_ble_eq_true rfl)⟩ (Nat.le_of_ble_eq_true rfl) (Nat.le_of_ble_eq_true rfl) (c_X1_isAlive hb hC (by omega) (fun q15 => ⟨_, rfl, ?_⟩) (fun q15 => ⟨_, rfl, ?_⟩)) rfl
      · refine v_if_eq 38 21 dX1_freeBits_18 rfl rfl (fun h => absurd h (by decide)) (fun _ => ?_)
        refine la_3_0 22 dX1_freeBits_21 rfl ?_
        refine vg_X1_24 hb rfl 25 dX1_freeBits_22 rfl ?_
        refine li_3_2 26 dX1_freeBits_25 rfl ?_
        refine vlq_X1_on hb hC _ 27 dX1_freeBits_26 rfl rfl (by omega) ?_
        refine v_bipush (v := (-9)) 29 dX1_freeBits_27 rfl kb_m9 ?_
        refine v_icmp_ne 38 32 dX1_freeBits_29 rfl rfl (fun h29 => ?_) (fun h29 => ?_)
        · refine v_iconst (v := 0) 39 dX1_freeBits_38 rfl ki_0 ?_
          refine v_ior 40 dX1_freeBits_39 rfl ?_
          refine si_3_1 rfl 41 dX1_freeBits_40 rfl rfl ?_
          refine icn_3_2 rfl 44 dX1_freeBits_41 rfl rfl ?_
          refine v_goto 4 dX1_freeBits_44 rfl ?_
          have e := ih hlt
          simp only [orB, suB, bit, q15, h29, decide_true, decide_false, Bool.true_and, Bool.false_and, Bool.and_true, Bool.and_false, not_true_eq_false, not_false_eq_true, reduceIte, Bool.false_eq_true] at e
          exact e
        · refine v_iconst (v := 1) 33 dX1_freeBits_32 rfl ki_1 ?_
          refine li_3_2 34 dX1_freeBits_33 rfl ?_
          refine v_ishl 35 dX1_freeBits_34 rfl ?_
          refine v_goto 39 dX1_freeBits_35 rfl ?_
          refine v_ior 40 dX1_freeBits_39 rfl ?_
          refine si_3_1 rfl 41 dX1_freeBits_40 rfl rfl ?_
          refine icn_3_2 rfl 44 dX1_freeBits_41 rfl rfl ?_
          refine v_goto 4 dX1_freeBits_44 rfl ?_
          have e := ih hlt
          simp only [orB, suB, bit, q15, h29, decide_true, decide_false, Bool.true_and, Bool.false_and, Bool.and_true, Bool.and_false, not_true_eq_false, not_false_eq_true, reduceIte, Bool.false_eq_true] at e
          exact e
      · refine v_if_eq 38 21 dX1_freeBits_18 rfl rfl (fun _ => ?_) (fun h => absurd rfl h)
        refine v_iconst (v := 0) 39 dX1_freeBits_38 rfl ki_0 ?_
        refine v_ior 40 dX1_freeBits_39 rfl ?_
        refine si_3_1 rfl 41 dX1_freeBits_40 rfl rfl ?_
        refine icn_3_2 rfl 44 dX1_freeBits_41 rfl rfl ?_
        refine v_goto 4 dX1_freeBits_44 rfl ?_
        have e := ih hlt
        simp only [orB, suB, bit, q15, decide_true, decide_false, Bool.true_and, Bool.false_and, Bool.and_true, Bool.and_false, not_true_eq_false, not_false_eq_true, reduceIte, Bool.false_eq_true] at e
        exact e
  refine v_iconst (v := 0) 1 dX1_freeBits_0 rfl ki_0 ?_
  refine si_3_1 rfl 2 dX1_freeBits_1 rfl rfl ?_
  refine v_iconst (v := 0) 3 dX1_freeBits_2 rfl ki_0 ?_
  refine si_3_2 rfl 4 dX1_freeBits_3 rfl rfl ?_
  exact key 0 (Nat.zero_le _)
set_option maxHeartbeats 4000000 in
set_option maxRecDepth 100000 in
theorem c_X1_stuckBits {b : Nat} (hb : b < 2) {w : Wd} {P : PT} (hC : isC w b P) {l : Int32} {Q : Option Value → Wd → Prop} (hQ : Q (some (.int (stuckP P l))) w) : V mX1_stuckBits 0 [some (.ref (pr b)), some (.int l), none, none] [] w Q := by
  have h5 := hC.2.2.2.2.1
  have h4 := hC.2.2.2.2.2.1
  have key : ∀ i, i ≤ P.1.1 → V mX1_stuckBits 4 [some (.ref (pr b)), some (.int l), some (.int (orB (fun s => decide (P.2 4 s = l)) i)), some (.int (nI i))] [] w Q := by
    refine up (fun i hi ih => ?_)
    refine li_4_3 5 dX1_stuckBits_4 rfl ?_
    refine la_4_0 6 dX1_stuckBits_5 rfl ?_
    refine vgq_X1_36 hb hC rfl 9 dX1_stuckBits_6 rfl ?_
    refine v_icmp_ge 38 12 dX1_stuckBits_9 rfl rfl (fun h9 => ?_) (fun h9 => ?_)
    · obtain rfl := ge_eq h9 hi (by omega)
      refine li_4_2 39 dX1_stuckBits_38 rfl ?_
      refine v_iret dX1_stuckBits_39 rfl ?_
      exact hQ
    · have hlt := ge_lt h9 (by omega) (by omega)
      refine li_4_2 13 dX1_stuckBits_12 rfl ?_
      refine la_4_0 14 dX1_stuckBits_13 rfl ?_
      refine vg_X1_24 hb rfl 17 dX1_stuckBits_14 rfl ?_
      refine li_4_3 18 dX1_stuckBits_17 rfl ?_
      refine vlq_X1_on hb hC _ 19 dX1_stuckBits_18 rfl rfl (by omega) ?_
      refine li_4_1 20 dX1_stuckBits_19 rfl ?_
      refine v_icmp_ne 29 23 dX1_stuckBits_20 rfl rfl (fun h20 => ?_) (fun h20 => ?_)
      · refine v_iconst (v := 0) 30 dX1_stuckBits_29 rfl ki_0 ?_
        refine v_ior 31 dX1_stuckBits_30 rfl ?_
        refine si_4_2 rfl 32 dX1_stuckBits_31 rfl rfl ?_
        refine icn_4_3 rfl 35 dX1_stuckBits_32 rfl rfl ?_
        refine v_goto 4 dX1_stuckBits_35 rfl ?_
        have e := ih hlt
        simp only [orB, suB, bit, h20, decide_true, decide_false, Bool.true_and, Bool.false_and, Bool.and_true, Bool.and_false, not_true_eq_false, not_false_eq_true, reduceIte, Bool.false_eq_true] at e
        exact e
      · refine v_iconst (v := 1) 24 dX1_stuckBits_23 rfl ki_1 ?_
        refine li_4_3 25 dX1_stuckBits_24 rfl ?_
        refine v_ishl 26 dX1_stuckBits_25 rfl ?_
        refine v_goto 30 dX1_stuckBits_26 rfl ?_
        refine v_ior 31 dX1_stuckBits_30 rfl ?_
        refine si_4_2 rfl 32 dX1_stuckBits_31 rfl rfl ?_
        refine icn_4_3 rfl 35 dX1_stuckBits_32 rfl rfl ?_
        refine v_goto 4 dX1_stuckBits_35 rfl ?_
        have e := ih hlt
        simp only [orB, suB, bit, h20, decide_true, decide_false, Bool.true_and, Bool.false_and, Bool.and_true, Bool.and_false, not_true_eq_false, not_false_eq_true, reduceIte, Bool.false_eq_true] at e
        exact e
  refine v_iconst (v := 0) 1 dX1_stuckBits_0 rfl ki_0 ?_
  refine si_4_2 rfl 2 dX1_stuckBits_1 rfl rfl ?_
  refine v_iconst (v := 0) 3 dX1_stuckBits_2 rfl ki_0 ?_
  refine si_4_3 rfl 4 dX1_stuckBits_3 rfl rfl ?_
  exact key 0 (Nat.zero_le _)
set_option maxHeartbeats 4000000 in
set_option maxRecDepth 100000 in
theorem c_X1_fateBits {b : Nat} (hb : b < 2) {w : Wd} {P : PT} (hC : isC w b P) {l : Int32} {Q : Option Value → Wd → Prop} (hQ : Q (some (.int (fateP P l))) w) : V mX1_fateBits 0 [some (.ref (pr b)), some (.int l), none, none] [] w Q := by
  have h5 := hC.2.2.2.2.1
  have h4 := hC.2.2.2.2.2.1
  have key : ∀ i, i ≤ P.1.2.1 → V mX1_fateBits 4 [some (.ref (pr b)), some (.int l), some (.int (orB (fun s => decide (P.2 7 s = l)) i)), some (.int (nI i))] [] w Q := by
    refine up (fun i hi ih => ?_)
    refine li_4_3 5 dX1_fateBits_4 rfl ?_
    refine la_4_0 6 dX1_fateBits_5 rfl ?_
    refine vgq_X1_40 hb hC rfl 9 dX1_fateBits_6 rfl ?_
    refine v_icmp_ge 38 12 dX1_fateBits_9 rfl rfl (fun h9 => ?_) (fun h9 => ?_)
    · obtain rfl := ge_eq h9 hi (by omega)
      refine li_4_2 39 dX1_fateBits_38 rfl ?_
      refine v_iret dX1_fateBits_39 rfl ?_
      exact hQ
    · have hlt := ge_lt h9 (by omega) (by omega)
      refine li_4_2 13 dX1_fateBits_12 rfl ?_
      refine la_4_0 14 dX1_fateBits_13 rfl ?_
      refine vg_X1_33 hb rfl 17 dX1_fateBits_14 rfl ?_
      refine li_4_3 18 dX1_fateBits_17 rfl ?_
      refine vlq_X1_fate hb hC _ 19 dX1_fateBits_18 rfl rfl (by omega) ?_
      refine li_4_1 20 dX1_fateBits_19 rfl ?_
      refine v_icmp_ne 29 23 dX1_fateBits_20 rfl rfl (fun h20 => ?_) (fun h20 => ?_)
      · refine v_iconst (v := 0) 30 dX1_fateBits_29 rfl ki_0 ?_
        refine v_ior 31 dX1_fateBits_30 rfl ?_
        refine si_4_2 rfl 32 dX1_fateBits_31 rfl rfl ?_
        refine icn_4_3 rfl 35 dX1_fateBits_32 rfl rfl ?_
        refine v_goto 4 dX1_fateBits_35 rfl ?_
        have e := ih hlt
        simp only [orB, suB, bit, h20, decide_true, decide_false, Bool.true_and, Bool.false_and, Bool.and_true, Bool.and_false, not_true_eq_false, not_false_eq_true, reduceIte, Bool.false_eq_true] at e
        exact e
      · refine v_iconst (v := 1) 24 dX1_fateBits_23 rfl ki_1 ?_
        refine li_4_3 25 dX1_fateBits_24 rfl ?_
        refine v_ishl 26 dX1_fateBits_25 rfl ?_
        refine v_goto 30 dX1_fateBits_26 rfl ?_
        refine v_ior 31 dX1_fateBits_30 rfl ?_
        refine si_4_2 rfl 32 dX1_fateBits_31 rfl rfl ?_
        refine icn_4_3 rfl 35 dX1_fateBits_32 rfl rfl ?_
        refine v_goto 4 dX1_fateBits_35 rfl ?_
        have e := ih hlt
        simp only [orB, suB, bit, h20, decide_true, decide_false, Bool.true_and, Bool.false_and, Bool.and_true, Bool.and_false, not_true_eq_false, not_false_eq_true, reduceIte, Bool.false_eq_true] at e
        exact e
  refine v_iconst (v := 0) 1 dX1_fateBits_0 rfl ki_0 ?_
  refine si_4_2 rfl 2 dX1_fateBits_1 rfl rfl ?_
  refine v_iconst (v := 0) 3 dX1_fateBits_2 rfl ki_0 ?_
  refine si_4_3 rfl 4 dX1_fateBits_3 rfl rfl ?_
  exact key 0 (Nat.zero_le _)
set_option maxHeartbeats 4000000 in
set_option maxRecDepth 100000 in
theorem c_X1_goodFor {b : Nat} (hb : b < 2) {w : Wd} {P : PT} (hC : isC w b P) {l : Int32} {Q : Option Value → Wd → Prop} (hQ : Q (some (.int (goodP P l))) w) : V mX1_goodFor 0 [some (.ref (pr b)), some (.int l), none, none] [] w Q := by
  have h5 := hC.2.2.2.2.1
  have h4 := hC.2.2.2.2.2.1
  have key : ∀ i, i ≤ P.1.1 → V mX1_goodFor 4 [some (.ref (pr b)), some (.int l), some (.int (suB (fun s => if bit l s && alP P s then rateP P s else 0) i)), some (.int (nI i))] [] w Q := by
    refine up (fun i hi ih => ?_)
    refine li_4_3 5 dX1_goodFor_4 rfl ?_
    refine la_4_0 6 dX1_goodFor_5 rfl ?_
    refine vgq_X1_36 hb hC rfl 9 dX1_goodFor_6 rfl ?_
    refine v_icmp_ge 47 12 dX1_goodFor_9 rfl rfl (fun h9 => ?_) (fun h9 => ?_)
    · obtain rfl := ge_eq h9 hi (by omega)
      refine li_4_2 48 dX1_goodFor_47 rfl ?_
      refine v_iret dX1_goodFor_48 rfl ?_
      exact hQ
    · have hlt := ge_lt h9 (by omega) (by omega)
      refine li_4_2 13 dX1_goodFor_12 rfl ?_
      refine li_4_1 14 dX1_goodFor_13 rfl ?_
      refine li_4_3 15 dX1_goodFor_14 rfl ?_
      refine v_ishr 16 dX1_goodFor_15 rfl ?_
      refine v_iconst (v := 1) 17 dX1_goodFor_16 rfl ki_1 ?_
      refine v_iand 18 dX1_goodFor_17 rfl ?_
      refine v_iconst (v := 1) 19 dX1_goodFor_18 rfl ki_1 ?_
      refine v_icmp_ne 38 22 dX1_goodFor_19 rfl rfl (fun h19 => ?_) (fun h19 => ?_)
      · refine v_iconst (v := 0) 39 dX1_goodFor_38 rfl ki_0 ?_
        refine v_iadd 40 dX1_goodFor_39 rfl ?_
        refine si_4_2 rfl 41 dX1_goodFor_40 rfl rfl ?_
        refine icn_4_3 rfl 44 dX1_goodFor_41 rfl rfl ?_
        refine v_goto 4 dX1_goodFor_44 rfl ?_
        have e := ih hlt
        simp only [orB, suB, bit, h19, decide_true, decide_false, Bool.true_and, Bool.false_and, Bool.and_true, Bool.and_false, not_true_eq_false, not_false_eq_true, reduceIte, Bool.false_eq_true] at e
        exact e
      · refine la_4_0 23 dX1_goodFor_22 rfl ?_
        refine li_4_3 24 dX1_goodFor_23 rfl ?_
        refine v_cVI1 27 dX1_goodFor_24 rfl fvX1_isAlive fiX1_isAlive ml_X1_87 (seX1 hb) rfl ⟨(Nat.le_of_ble_eq_true rfl), (Nat.le_of_ble_eq_true rfl)⟩ (Nat.le_of_ble_eq_true rfl) (Nat.le_of_ble_eq_true rfl) (c_X1_isAlive hb hC (by omega) (fun q24 => ⟨_, rfl, ?_⟩) (fun q24 => ⟨_, rfl, ?_⟩)) rfl
        · refine v_if_eq 38 30 dX1_goodFor_27 rfl rfl (fun h => absurd h (by decide)) (fun _ => ?_)
          refine la_4_0 31 dX1_goodFor_30 rfl ?_
          refine li_4_3 32 dX1_goodFor_31 rfl ?_
          refine v_cVI1 35 dX1_goodFor_32 rfl fvX1_rate fiX1_rate ml_X1_93 (seX1 hb) rfl ⟨(Nat.le_of_ble_eq_true rfl), (Nat.le_of_ble_eq_true rfl)⟩ (Nat.le_of_ble_eq_true rfl) (Nat.le_of_ble_eq_true rfl) (c_X1_rate hb hC (by omega) ⟨_, rfl, ?_⟩) rfl
          refine v_goto 39 dX1_goodFor_35 rfl ?_
          refine v_iadd 40 dX1_goodFor_39 rfl ?_
          refine si_4_2 rfl 41 dX1_goodFor_40 rfl rfl ?_
          refine icn_4_3 rfl 44 dX1_goodFor_41 rfl rfl ?_
          refine v_goto 4 dX1_goodFor_44 rfl ?_
          have e := ih hlt
          simp only [orB, suB, bit, h19, q24, decide_true, decide_false, Bool.true_and, Bool.false_and, Bool.and_true, Bool.and_false, not_true_eq_false, not_false_eq_true, reduceIte, Bool.false_eq_true] at e
          exact e
        · refine v_if_eq 38 30 dX1_goodFor_27 rfl rfl (fun _ => ?_) (fun h => absurd rfl h)
          refine v_iconst (v := 0) 39 dX1_goodFor_38 rfl ki_0 ?_
          refine v_iadd 40 dX1_goodFor_39 rfl ?_
          refine si_4_2 rfl 41 dX1_goodFor_40 rfl rfl ?_
          refine icn_4_3 rfl 44 dX1_goodFor_41 rfl rfl ?_
          refine v_goto 4 dX1_goodFor_44 rfl ?_
          have e := ih hlt
          simp only [orB, suB, bit, h19, q24, decide_true, decide_false, Bool.true_and, Bool.false_and, Bool.and_true, Bool.and_false, not_true_eq_false, not_false_eq_true, reduceIte, Bool.false_eq_true] at e
          exact e
  refine v_iconst (v := 0) 1 dX1_goodFor_0 rfl ki_0 ?_
  refine si_4_2 rfl 2 dX1_goodFor_1 rfl rfl ?_
  refine v_iconst (v := 0) 3 dX1_goodFor_2 rfl ki_0 ?_
  refine si_4_3 rfl 4 dX1_goodFor_3 rfl rfl ?_
  exact key 0 (Nat.zero_le _)
set_option maxHeartbeats 4000000 in
set_option maxRecDepth 100000 in
theorem c_X1_affordable {b : Nat} (hb : b < 2) {w : Wd} {P : PT} (hC : isC w b P) {l : Int32} {Q : Option Value → Wd → Prop} (hQ : Q (some (.int (payP P l))) w) : V mX1_affordable 0 [some (.ref (pr b)), some (.int l), none, none, none] [] w Q := by
  have h5 := hC.2.2.2.2.1
  have h4 := hC.2.2.2.2.2.1
  have key : ∀ i, i ≤ P.1.2.1 → V mX1_affordable 11 [some (.ref (pr b)), some (.int l), some (.int (goodP P l)), some (.int (suB (fun s => if decide (P.2 7 s = 0) && decide (P.2 6 s ≤ goodP P l) then 1 else 0) i)), some (.int (nI i))] [] w Q := by
    refine up (fun i hi ih => ?_)
    refine li_5_4 13 dX1_affordable_11 rfl ?_
    refine la_5_0 14 dX1_affordable_13 rfl ?_
    refine vgq_X1_40 hb hC rfl 17 dX1_affordable_14 rfl ?_
    refine v_icmp_ge 55 20 dX1_affordable_17 rfl rfl (fun h17 => ?_) (fun h17 => ?_)
    · obtain rfl := ge_eq h17 hi (by omega)
      refine li_5_3 56 dX1_affordable_55 rfl ?_
      refine v_iret dX1_affordable_56 rfl ?_
      exact hQ
    · have hlt := ge_lt h17 (by omega) (by omega)
      refine li_5_3 21 dX1_affordable_20 rfl ?_
      refine la_5_0 22 dX1_affordable_21 rfl ?_
      refine vg_X1_33 hb rfl 25 dX1_affordable_22 rfl ?_
      refine li_5_4 27 dX1_affordable_25 rfl ?_
      refine vlq_X1_fate hb hC _ 28 dX1_affordable_27 rfl rfl (by omega) ?_
      refine v_if_ne 46 31 dX1_affordable_28 rfl rfl (fun h28 => ?_) (fun h28 => ?_)
      · refine v_iconst (v := 0) 47 dX1_affordable_46 rfl ki_0 ?_
        refine v_iadd 48 dX1_affordable_47 rfl ?_
        refine si_5_3 rfl 49 dX1_affordable_48 rfl rfl ?_
        refine icn_5_4 rfl 52 dX1_affordable_49 rfl rfl ?_
        refine v_goto 11 dX1_affordable_52 rfl ?_
        have e := ih hlt
        simp only [orB, suB, bit, h28, decide_true, decide_false, Bool.true_and, Bool.false_and, Bool.and_true, Bool.and_false, not_true_eq_false, not_false_eq_true, reduceIte, Bool.false_eq_true] at e
        exact e
      · refine la_5_0 32 dX1_affordable_31 rfl ?_
        refine vg_X1_30 hb rfl 35 dX1_affordable_32 rfl ?_
        refine li_5_4 37 dX1_affordable_35 rfl ?_
        refine vlq_X1_cost hb hC _ 38 dX1_affordable_37 rfl rfl (by omega) ?_
        refine li_5_2 39 dX1_affordable_38 rfl ?_
        refine v_icmp_gt 46 42 dX1_affordable_39 rfl rfl (fun h39 => ?_) (fun h39 => ?_)
        · have h39 := i_nle.mpr h39
          refine v_iconst (v := 0) 47 dX1_affordable_46 rfl ki_0 ?_
          refine v_iadd 48 dX1_affordable_47 rfl ?_
          refine si_5_3 rfl 49 dX1_affordable_48 rfl rfl ?_
          refine icn_5_4 rfl 52 dX1_affordable_49 rfl rfl ?_
          refine v_goto 11 dX1_affordable_52 rfl ?_
          have e := ih hlt
          simp only [orB, suB, bit, h28, h39, decide_true, decide_false, Bool.true_and, Bool.false_and, Bool.and_true, Bool.and_false, not_true_eq_false, not_false_eq_true, reduceIte, Bool.false_eq_true] at e
          exact e
        · have h39 := i_nlt.mp h39
          refine v_iconst (v := 1) 43 dX1_affordable_42 rfl ki_1 ?_
          refine v_goto 47 dX1_affordable_43 rfl ?_
          refine v_iadd 48 dX1_affordable_47 rfl ?_
          refine si_5_3 rfl 49 dX1_affordable_48 rfl rfl ?_
          refine icn_5_4 rfl 52 dX1_affordable_49 rfl rfl ?_
          refine v_goto 11 dX1_affordable_52 rfl ?_
          have e := ih hlt
          simp only [orB, suB, bit, h28, h39, decide_true, decide_false, Bool.true_and, Bool.false_and, Bool.and_true, Bool.and_false, not_true_eq_false, not_false_eq_true, reduceIte, Bool.false_eq_true] at e
          exact e
  refine la_5_0 1 dX1_affordable_0 rfl ?_
  refine li_5_1 2 dX1_affordable_1 rfl ?_
  refine v_cVI1 5 dX1_affordable_2 rfl fvX1_goodFor fiX1_goodFor ml_X1_96 (seX1 hb) rfl ⟨(Nat.le_of_ble_eq_true rfl), (Nat.le_of_ble_eq_true rfl)⟩ (Nat.le_of_ble_eq_true rfl) (Nat.le_of_ble_eq_true rfl) (c_X1_goodFor hb hC ⟨_, rfl, ?_⟩) rfl
  refine si_5_2 rfl 6 dX1_affordable_5 rfl rfl ?_
  refine v_iconst (v := 0) 7 dX1_affordable_6 rfl ki_0 ?_
  refine si_5_3 rfl 8 dX1_affordable_7 rfl rfl ?_
  refine v_iconst (v := 0) 9 dX1_affordable_8 rfl ki_0 ?_
  refine si_5_4 rfl 11 dX1_affordable_9 rfl rfl ?_
  exact key 0 (Nat.zero_le _)

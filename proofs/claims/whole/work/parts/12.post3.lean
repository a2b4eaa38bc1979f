def ush (x k : Int32) : Int32 := (x.toUInt32 >>> (k.toUInt32 &&& Int32.toUInt32 31)).toInt32
def bc1 (x : Int32) : Int32 := x - (ush x 1 &&& 1431655765)
def bc2 (x : Int32) : Int32 := (x &&& 858993459) + (ush x 2 &&& 858993459)
def bc3 (x : Int32) : Int32 := (x + ush x 4) &&& 252645135
def bc4 (x : Int32) : Int32 := x + ush x 8
def bc5 (x : Int32) : Int32 := x + ush x 16
def bcF (x : Int32) : Int32 := bc5 (bc4 (bc3 (bc2 (bc1 x)))) &&& 63
set_option maxHeartbeats 4000000 in
set_option maxRecDepth 100000 in
theorem c_bitCount {w : Wd} {x : Int32} {Q : Option Value → Wd → Prop} (hQ : Q (some (.int (bcF x))) w) : V mJ6_bitCount_0f7a4 0 [some (.int x)] [] w Q := by
  refine li_1_0 1 dJ6_bitCount_0f7a4_0 rfl ?_
  refine li_1_0 2 dJ6_bitCount_0f7a4_1 rfl ?_
  refine v_iconst (v := 1) 3 dJ6_bitCount_0f7a4_2 rfl ki_1 ?_
  refine v_iushr 4 dJ6_bitCount_0f7a4_3 rfl ?_
  refine v_ldcw 7 dJ6_bitCount_0f7a4_4 rfl kl_J6_265 ?_
  refine v_iand 8 dJ6_bitCount_0f7a4_7 rfl ?_
  refine v_isub 9 dJ6_bitCount_0f7a4_8 rfl ?_
  refine si_1_0 rfl 10 dJ6_bitCount_0f7a4_9 rfl ?_
  refine li_1_0 11 dJ6_bitCount_0f7a4_10 rfl ?_
  refine v_ldcw 14 dJ6_bitCount_0f7a4_11 rfl kl_J6_266 ?_
  refine v_iand 15 dJ6_bitCount_0f7a4_14 rfl ?_
  refine li_1_0 16 dJ6_bitCount_0f7a4_15 rfl ?_
  refine v_iconst (v := 2) 17 dJ6_bitCount_0f7a4_16 rfl ki_2 ?_
  refine v_iushr 18 dJ6_bitCount_0f7a4_17 rfl ?_
  refine v_ldcw 21 dJ6_bitCount_0f7a4_18 rfl kl_J6_266 ?_
  refine v_iand 22 dJ6_bitCount_0f7a4_21 rfl ?_
  refine v_iadd 23 dJ6_bitCount_0f7a4_22 rfl ?_
  refine si_1_0 rfl 24 dJ6_bitCount_0f7a4_23 rfl ?_
  refine li_1_0 25 dJ6_bitCount_0f7a4_24 rfl ?_
  refine li_1_0 26 dJ6_bitCount_0f7a4_25 rfl ?_
  refine v_iconst (v := 4) 27 dJ6_bitCount_0f7a4_26 rfl ki_4 ?_
  refine v_iushr 28 dJ6_bitCount_0f7a4_27 rfl ?_
  refine v_iadd 29 dJ6_bitCount_0f7a4_28 rfl ?_
  refine v_ldcw 32 dJ6_bitCount_0f7a4_29 rfl kl_J6_267 ?_
  refine v_iand 33 dJ6_bitCount_0f7a4_32 rfl ?_
  refine si_1_0 rfl 34 dJ6_bitCount_0f7a4_33 rfl ?_
  refine li_1_0 35 dJ6_bitCount_0f7a4_34 rfl ?_
  refine li_1_0 36 dJ6_bitCount_0f7a4_35 rfl ?_
  refine v_bipush (v := 8) 38 dJ6_bitCount_0f7a4_36 rfl kb_8 ?_
  refine v_iushr 39 dJ6_bitCount_0f7a4_38 rfl ?_
  refine v_iadd 40 dJ6_bitCount_0f7a4_39 rfl ?_
  refine si_1_0 rfl 41 dJ6_bitCount_0f7a4_40 rfl ?_
  refine li_1_0 42 dJ6_bitCount_0f7a4_41 rfl ?_
  refine li_1_0 43 dJ6_bitCount_0f7a4_42 rfl ?_
  refine v_bipush (v := 16) 45 dJ6_bitCount_0f7a4_43 rfl kb_16 ?_
  refine v_iushr 46 dJ6_bitCount_0f7a4_45 rfl ?_
  refine v_iadd 47 dJ6_bitCount_0f7a4_46 rfl ?_
  refine si_1_0 rfl 48 dJ6_bitCount_0f7a4_47 rfl ?_
  refine li_1_0 49 dJ6_bitCount_0f7a4_48 rfl ?_
  refine v_bipush (v := 63) 51 dJ6_bitCount_0f7a4_49 rfl kb_63 ?_
  refine v_iand 52 dJ6_bitCount_0f7a4_51 rfl ?_
  refine v_iret dJ6_bitCount_0f7a4_52 rfl ?_
  exact hQ
def joinedQ (P : PT) (i j : Int32) : Prop := ∃ k m, k < P.1.1 ∧ m < P.1.1 ∧ i = nI k ∧ j = nI m ∧ bit (P.2 3 k) m = true
def joinQ (P : PT) (i j : Int32) : Prop := (∃ k, k < P.1.1 ∧ i = nI k) ∧ (∃ k, k < P.1.1 ∧ j = nI k) ∧ ¬ i = j ∧ ¬ joinedQ P i j
def someQ (P : PT) (i : Int32) : Prop := ∃ k, k < P.1.1 ∧ i = nI k ∧ ¬ P.2 3 k ||| 1 <<< (nI k &&& 31) = 1 <<< (nI P.1.1 &&& 31) - 1
def stickQ (P : PT) (i l : Int32) : Prop := ∃ k m, k < P.1.1 ∧ m < P.1.2.1 ∧ i = nI k ∧ l = nI m ∧ alP P k = true ∧ P.2 4 k = -9 ∧ P.2 7 m = 0
def sendQ (P : PT) (l : Int32) : Prop := ∃ m, m < P.1.2.1 ∧ l = nI m ∧ P.2 7 m = 0 ∧ P.2 6 m ≤ goodP P (stuckP P (nI m))
theorem nI_inj {a b : Nat} (ha : a < 2 ^ 31) (hb : b < 2 ^ 31) (h : nI a = nI b) : a = b := (nI_eq ha hb).mp h
theorem joinedQ_i {P : PT} (h5 : P.1.1 ≤ 5) {k m : Nat} (hk : k < P.1.1) (hm : m < P.1.1) : joinedQ P (nI k) (nI m) ↔ bit (P.2 3 k) m = true := by
  constructor
  · rintro ⟨k', m', a, a2, e1, e2, h⟩
    obtain rfl := nI_inj (by omega) (by omega) e1
    obtain rfl := nI_inj (by omega) (by omega) e2
    exact h
  · exact fun h => ⟨k, m, hk, hm, rfl, rfl, h⟩
theorem someQ_i {P : PT} (h5 : P.1.1 ≤ 5) {k : Nat} (hk : k < P.1.1) : someQ P (nI k) ↔ ¬ P.2 3 k ||| 1 <<< (nI k &&& 31) = 1 <<< (nI P.1.1 &&& 31) - 1 := by
  constructor
  · rintro ⟨k', a, e1, h⟩
    obtain rfl := nI_inj (by omega) (by omega) e1
    exact h
  · exact fun h => ⟨k, hk, rfl, h⟩
theorem stickQ_i {P : PT} (h5 : P.1.1 ≤ 5) (h4 : P.1.2.1 ≤ 4) {k m : Nat} (hk : k < P.1.1) (hm : m < P.1.2.1) : stickQ P (nI k) (nI m) ↔ alP P k = true ∧ P.2 4 k = -9 ∧ P.2 7 m = 0 := by
  constructor
  · rintro ⟨k', m', a, a2, e1, e2, h⟩
    obtain rfl := nI_inj (by omega) (by omega) e1
    obtain rfl := nI_inj (by omega) (by omega) e2
    exact h
  · exact fun h => ⟨k, m, hk, hm, rfl, rfl, h⟩
theorem sendQ_i {P : PT} (h4 : P.1.2.1 ≤ 4) {m : Nat} (hm : m < P.1.2.1) : sendQ P (nI m) ↔ P.2 7 m = 0 ∧ P.2 6 m ≤ goodP P (stuckP P (nI m)) := by
  constructor
  · rintro ⟨m', a2, e2, h⟩
    obtain rfl := nI_inj (by omega) (by omega) e2
    exact h
  · exact fun h => ⟨m, hm, rfl, h⟩
set_option maxHeartbeats 4000000 in
set_option maxRecDepth 100000 in
theorem c_X1_areJoined {b : Nat} (hb : b < 2) {w : Wd} {P : PT} (hC : isC w b P) {i j : Int32} {Q : Option Value → Wd → Prop} (hT : joinedQ P i j → Q (some (.int 1)) w) (hF : ¬ joinedQ P i j → Q (some (.int 0)) w) : V mX1_areJoined 0 [some (.ref (pr b)), some (.int i), some (.int j)] [] w Q := by
  have h5 := hC.2.2.2.2.1
  have h4 := hC.2.2.2.2.2.1
  refine la_3_0 1 dX1_areJoined_0 rfl ?_
  refine li_3_1 2 dX1_areJoined_1 rfl ?_
  refine v_cVI1 5 dX1_areJoined_2 rfl fvX1_hasStamp fiX1_hasStamp ml_X1_62 (seX1 hb) rfl ⟨(Nat.le_of_ble_eq_true rfl), (Nat.le_of_ble_eq_true rfl)⟩ (Nat.le_of_ble_eq_true rfl) (Nat.le_of_ble_eq_true rfl) (c_X1_hasStamp hb hC (fun q2 => ⟨_, rfl, ?_⟩) (fun q2 => ⟨_, rfl, ?_⟩)) rfl
  · obtain ⟨k, hk, rfl⟩ := q2
    refine v_if_eq 34 8 dX1_areJoined_5 rfl rfl (fun h => absurd h (by decide)) (fun _ => ?_)
    refine la_3_0 9 dX1_areJoined_8 rfl ?_
    refine li_3_2 10 dX1_areJoined_9 rfl ?_
    refine v_cVI1 13 dX1_areJoined_10 rfl fvX1_hasStamp fiX1_hasStamp ml_X1_62 (seX1 hb) rfl ⟨(Nat.le_of_ble_eq_true rfl), (Nat.le_of_ble_eq_true rfl)⟩ (Nat.le_of_ble_eq_true rfl) (Nat.le_of_ble_eq_true rfl) (c_X1_hasStamp hb hC (fun q10 => ⟨_, rfl, ?_⟩) (fun q10 => ⟨_, rfl, ?_⟩)) rfl
    · obtain ⟨m, hm, rfl⟩ := q10
      refine v_if_eq 34 16 dX1_areJoined_13 rfl rfl (fun h => absurd h (by decide)) (fun _ => ?_)
      refine la_3_0 17 dX1_areJoined_16 rfl ?_
      refine vg_X1_21 hb rfl 20 dX1_areJoined_17 rfl ?_
      refine li_3_1 21 dX1_areJoined_20 rfl ?_
      refine vlq_X1_joined hb hC _ 22 dX1_areJoined_21 rfl rfl (by omega) ?_
      refine li_3_2 23 dX1_areJoined_22 rfl ?_
      refine v_ishr 24 dX1_areJoined_23 rfl ?_
      refine v_iconst (v := 1) 25 dX1_areJoined_24 rfl ki_1 ?_
      refine v_iand 26 dX1_areJoined_25 rfl ?_
      refine v_iconst (v := 1) 27 dX1_areJoined_26 rfl ki_1 ?_
      refine v_icmp_ne 34 30 dX1_areJoined_27 rfl rfl (fun h27 => ?_) (fun h27 => ?_)
      · refine v_iconst (v := 0) 35 dX1_areJoined_34 rfl ki_0 ?_
        refine v_zret dX1_areJoined_35 rfl (Or.inl rfl) ?_
        exact hF (by rw [joinedQ_i h5 hk hm]; simpa [bit] using h27)
      · refine v_iconst (v := 1) 31 dX1_areJoined_30 rfl ki_1 ?_
        refine v_goto 35 dX1_areJoined_31 rfl ?_
        refine v_zret dX1_areJoined_35 rfl (Or.inr rfl) ?_
        exact hT ((joinedQ_i h5 hk hm).mpr (by simpa [bit] using h27))
    · refine v_if_eq 34 16 dX1_areJoined_13 rfl rfl (fun _ => ?_) (fun h => absurd rfl h)
      refine v_iconst (v := 0) 35 dX1_areJoined_34 rfl ki_0 ?_
      refine v_zret dX1_areJoined_35 rfl (Or.inl rfl) ?_
      exact hF (fun ⟨_, m, _, hm, _, e, _⟩ => q10 ⟨m, hm, e⟩)
  · refine v_if_eq 34 8 dX1_areJoined_5 rfl rfl (fun _ => ?_) (fun h => absurd rfl h)
    refine v_iconst (v := 0) 35 dX1_areJoined_34 rfl ki_0 ?_
    refine v_zret dX1_areJoined_35 rfl (Or.inl rfl) ?_
    exact hF (fun ⟨k, _, hk, _, e, _⟩ => q2 ⟨k, hk, e⟩)
set_option maxHeartbeats 4000000 in
set_option maxRecDepth 100000 in
theorem c_X1_canJoin {b : Nat} (hb : b < 2) {w : Wd} {P : PT} (hC : isC w b P) {i j : Int32} {Q : Option Value → Wd → Prop} (hT : joinQ P i j → Q (some (.int 1)) w) (hF : ¬ joinQ P i j → Q (some (.int 0)) w) : V mX1_canJoin 0 [some (.ref (pr b)), some (.int i), some (.int j)] [] w Q := by
  have h5 := hC.2.2.2.2.1
  have h4 := hC.2.2.2.2.2.1
  refine la_3_0 1 dX1_canJoin_0 rfl ?_
  refine li_3_1 2 dX1_canJoin_1 rfl ?_
  refine v_cVI1 5 dX1_canJoin_2 rfl fvX1_hasStamp fiX1_hasStamp ml_X1_62 (seX1 hb) rfl ⟨(Nat.le_of_ble_eq_true rfl), (Nat.le_of_ble_eq_true rfl)⟩ (Nat.le_of_ble_eq_true rfl) (Nat.le_of_ble_eq_true rfl) (c_X1_hasStamp hb hC (fun q2 => ⟨_, rfl, ?_⟩) (fun q2 => ⟨_, rfl, ?_⟩)) rfl
  · refine v_if_eq 34 8 dX1_canJoin_5 rfl rfl (fun h => absurd h (by decide)) (fun _ => ?_)
    refine la_3_0 9 dX1_canJoin_8 rfl ?_
    refine li_3_2 10 dX1_canJoin_9 rfl ?_
    refine v_cVI1 13 dX1_canJoin_10 rfl fvX1_hasStamp fiX1_hasStamp ml_X1_62 (seX1 hb) rfl ⟨(Nat.le_of_ble_eq_true rfl), (Nat.le_of_ble_eq_true rfl)⟩ (Nat.le_of_ble_eq_true rfl) (Nat.le_of_ble_eq_true rfl) (c_X1_hasStamp hb hC (fun q10 => ⟨_, rfl, ?_⟩) (fun q10 => ⟨_, rfl, ?_⟩)) rfl
    · refine v_if_eq 34 16 dX1_canJoin_13 rfl rfl (fun h => absurd h (by decide)) (fun _ => ?_)
      refine li_3_1 17 dX1_canJoin_16 rfl ?_
      refine li_3_2 18 dX1_canJoin_17 rfl ?_
      refine v_icmp_eq 34 21 dX1_canJoin_18 rfl rfl (fun h18 => ?_) (fun h18 => ?_)
      · refine v_iconst (v := 0) 35 dX1_canJoin_34 rfl ki_0 ?_
        refine v_zret dX1_canJoin_35 rfl (Or.inl rfl) ?_
        exact hF (fun q => q.2.2.1 h18)
      · refine la_3_0 22 dX1_canJoin_21 rfl ?_
        refine li_3_1 23 dX1_canJoin_22 rfl ?_
        refine li_3_2 24 dX1_canJoin_23 rfl ?_
        refine v_cVI2 27 dX1_canJoin_24 rfl fvX1_areJoined fiX1_areJoined ml_X1_66 (seX1 hb) rfl ⟨(Nat.le_of_ble_eq_true rfl), (Nat.le_of_ble_eq_true rfl)⟩ (Nat.le_of_ble_eq_true rfl) (Nat.le_of_ble_eq_true rfl) (c_X1_areJoined hb hC (fun q24 => ⟨_, rfl, ?_⟩) (fun q24 => ⟨_, rfl, ?_⟩)) rfl
        · refine v_if_ne 34 30 dX1_canJoin_27 rfl rfl (fun _ => ?_) (fun h => absurd h (by decide))
          refine v_iconst (v := 0) 35 dX1_canJoin_34 rfl ki_0 ?_
          refine v_zret dX1_canJoin_35 rfl (Or.inl rfl) ?_
          exact hF (fun q => q.2.2.2 q24)
        · refine v_if_ne 34 30 dX1_canJoin_27 rfl rfl (fun h => absurd rfl h) (fun _ => ?_)
          refine v_iconst (v := 1) 31 dX1_canJoin_30 rfl ki_1 ?_
          refine v_goto 35 dX1_canJoin_31 rfl ?_
          refine v_zret dX1_canJoin_35 rfl (Or.inr rfl) ?_
          exact hT ⟨q2, q10, h18, q24⟩
    · refine v_if_eq 34 16 dX1_canJoin_13 rfl rfl (fun _ => ?_) (fun h => absurd rfl h)
      refine v_iconst (v := 0) 35 dX1_canJoin_34 rfl ki_0 ?_
      refine v_zret dX1_canJoin_35 rfl (Or.inl rfl) ?_
      exact hF (fun q => q10 q.2.1)
  · refine v_if_eq 34 8 dX1_canJoin_5 rfl rfl (fun _ => ?_) (fun h => absurd rfl h)
    refine v_iconst (v := 0) 35 dX1_canJoin_34 rfl ki_0 ?_
    refine v_zret dX1_canJoin_35 rfl (Or.inl rfl) ?_
    exact hF (fun q => q2 q.1)
set_option maxHeartbeats 4000000 in
set_option maxRecDepth 100000 in
theorem c_X1_canJoinSome {b : Nat} (hb : b < 2) {w : Wd} {P : PT} (hC : isC w b P) {i : Int32} {Q : Option Value → Wd → Prop} (hT : someQ P i → Q (some (.int 1)) w) (hF : ¬ someQ P i → Q (some (.int 0)) w) : V mX1_canJoinSome 0 [some (.ref (pr b)), some (.int i)] [] w Q := by
  have h5 := hC.2.2.2.2.1
  have h4 := hC.2.2.2.2.2.1
  refine la_2_0 1 dX1_canJoinSome_0 rfl ?_
  refine li_2_1 2 dX1_canJoinSome_1 rfl ?_
  refine v_cVI1 5 dX1_canJoinSome_2 rfl fvX1_hasStamp fiX1_hasStamp ml_X1_62 (seX1 hb) rfl ⟨(Nat.le_of_ble_eq_true rfl), (Nat.le_of_ble_eq_true rfl)⟩ (Nat.le_of_ble_eq_true rfl) (Nat.le_of_ble_eq_true rfl) (c_X1_hasStamp hb hC (fun q2 => ⟨_, rfl, ?_⟩) (fun q2 => ⟨_, rfl, ?_⟩)) rfl
  · obtain ⟨k, hk, rfl⟩ := q2
    refine v_if_eq 29 8 dX1_canJoinSome_5 rfl rfl (fun h => absurd h (by decide)) (fun _ => ?_)
    refine la_2_0 9 dX1_canJoinSome_8 rfl ?_
    refine vg_X1_21 hb rfl 12 dX1_canJoinSome_9 rfl ?_
    refine li_2_1 13 dX1_canJoinSome_12 rfl ?_
    refine vlq_X1_joined hb hC _ 14 dX1_canJoinSome_13 rfl rfl (by omega) ?_
    refine v_iconst (v := 1) 15 dX1_canJoinSome_14 rfl ki_1 ?_
    refine li_2_1 16 dX1_canJoinSome_15 rfl ?_
    refine v_ishl 17 dX1_canJoinSome_16 rfl ?_
    refine v_ior 18 dX1_canJoinSome_17 rfl ?_
    refine la_2_0 19 dX1_canJoinSome_18 rfl ?_
    refine v_cVI0 22 dX1_canJoinSome_19 rfl fvX1_allBits fiX1_allBits ml_X1_70 (seX1 hb) rfl ⟨(Nat.le_of_ble_eq_true rfl), (Nat.le_of_ble_eq_true rfl)⟩ (Nat.le_of_ble_eq_true rfl) (Nat.le_of_ble_eq_true rfl) (c_X1_allBits hb hC ⟨_, rfl, ?_⟩) rfl
    refine v_icmp_eq 29 25 dX1_canJoinSome_22 rfl rfl (fun h22 => ?_) (fun h22 => ?_)
    · refine v_iconst (v := 0) 30 dX1_canJoinSome_29 rfl ki_0 ?_
      refine v_zret dX1_canJoinSome_30 rfl (Or.inl rfl) ?_
      exact hF (by rw [someQ_i h5 hk]; exact fun q => q h22)
    · refine v_iconst (v := 1) 26 dX1_canJoinSome_25 rfl ki_1 ?_
      refine v_goto 30 dX1_canJoinSome_26 rfl ?_
      refine v_zret dX1_canJoinSome_30 rfl (Or.inr rfl) ?_
      exact hT ((someQ_i h5 hk).mpr h22)
  · refine v_if_eq 29 8 dX1_canJoinSome_5 rfl rfl (fun _ => ?_) (fun h => absurd rfl h)
    refine v_iconst (v := 0) 30 dX1_canJoinSome_29 rfl ki_0 ?_
    refine v_zret dX1_canJoinSome_30 rfl (Or.inl rfl) ?_
    exact hF (fun ⟨k, hk, e, _⟩ => q2 ⟨k, hk, e⟩)
set_option maxHeartbeats 4000000 in
set_option maxRecDepth 100000 in
theorem c_X1_canJoinAny {b : Nat} (hb : b < 2) {w : Wd} {P : PT} (hC : isC w b P) {Q : Option Value → Wd → Prop} (hT : (∃ k, k < P.1.1 ∧ someQ P (nI k)) → Q (some (.int 1)) w) (hF : (¬ ∃ k, k < P.1.1 ∧ someQ P (nI k)) → Q (some (.int 0)) w) : V mX1_canJoinAny 0 [some (.ref (pr b)), none] [] w Q := by
  have h5 := hC.2.2.2.2.1
  have h4 := hC.2.2.2.2.2.1
  have key : ∀ i, i ≤ P.1.1 → (∀ k, k < i → ¬ someQ P (nI k)) → V mX1_canJoinAny 2 [some (.ref (pr b)), some (.int (nI i))] [] w Q := by
    refine up (P := fun i => (∀ k, k < i → ¬ someQ P (nI k)) → V mX1_canJoinAny 2 [some (.ref (pr b)), some (.int (nI i))] [] w Q) (fun i hi ih => ?_)
    intro hb2
    refine li_2_1 3 dX1_canJoinAny_2 rfl ?_
    refine la_2_0 4 dX1_canJoinAny_3 rfl ?_
    refine vgq_X1_36 hb hC rfl 7 dX1_canJoinAny_4 rfl ?_
    refine v_icmp_ge 26 10 dX1_canJoinAny_7 rfl rfl (fun h7 => ?_) (fun h7 => ?_)
    · obtain rfl := ge_eq h7 hi (by omega)
      refine v_iconst (v := 0) 27 dX1_canJoinAny_26 rfl ki_0 ?_
      refine v_zret dX1_canJoinAny_27 rfl (Or.inl rfl) ?_
      exact hF (fun ⟨k, hk, q⟩ => hb2 k hk q)
    · have hlt := ge_lt h7 (by omega) (by omega)
      refine la_2_0 11 dX1_canJoinAny_10 rfl ?_
      refine li_2_1 12 dX1_canJoinAny_11 rfl ?_
      refine v_cVI1 15 dX1_canJoinAny_12 rfl fvX1_canJoinSome fiX1_canJoinSome ml_X1_74 (seX1 hb) rfl ⟨(Nat.le_of_ble_eq_true rfl), (Nat.le_of_ble_eq_true rfl)⟩ (Nat.le_of_ble_eq_true rfl) (Nat.le_of_ble_eq_true rfl) (c_X1_canJoinSome hb hC (fun q12 => ⟨_, rfl, ?_⟩) (fun q12 => ⟨_, rfl, ?_⟩)) rfl
      · refine v_if_eq 20 18 dX1_canJoinAny_15 rfl rfl (fun h => absurd h (by decide)) (fun _ => ?_)
        refine v_iconst (v := 1) 19 dX1_canJoinAny_18 rfl ki_1 ?_
        refine v_zret dX1_canJoinAny_19 rfl (Or.inr rfl) ?_
        exact hT ⟨i, hlt, q12⟩
      · refine v_if_eq 20 18 dX1_canJoinAny_15 rfl rfl (fun _ => ?_) (fun h => absurd rfl h)
        refine icn_2_1 rfl 23 dX1_canJoinAny_20 rfl rfl ?_
        refine v_goto 2 dX1_canJoinAny_23 rfl ?_
        refine ih hlt (fun k hk => ?_)
        rcases Nat.lt_or_ge k i with z | z
        · exact hb2 k z
        · rw [show k = i by omega]; exact q12
  refine v_iconst (v := 0) 1 dX1_canJoinAny_0 rfl ki_0 ?_
  refine si_2_1 rfl 2 dX1_canJoinAny_1 rfl rfl ?_
  exact key 0 (Nat.zero_le _) (fun k hk => absurd hk (Nat.not_lt_zero k))
def jtP (P : PT) (x : Int32) : Nat → Int32
  | 0 => 0
  | n + 1 => if bit x n then jtP P x n ||| P.2 3 n else jtP P x n
set_option maxHeartbeats 4000000 in
set_option maxRecDepth 100000 in
theorem c_X1_joinedToAny {b : Nat} (hb : b < 2) {w : Wd} {P : PT} (hC : isC w b P) {x : Int32} {Q : Option Value → Wd → Prop} (hQ : Q (some (.int (jtP P x P.1.1))) w) : V mX1_joinedToAny 0 [some (.ref (pr b)), some (.int x), none, none] [] w Q := by
  have h5 := hC.2.2.2.2.1
  have h4 := hC.2.2.2.2.2.1
  have key : ∀ i, i ≤ P.1.1 → V mX1_joinedToAny 4 [some (.ref (pr b)), some (.int x), some (.int (jtP P x i)), some (.int (nI i))] [] w Q := by
    refine up (fun i hi ih => ?_)
    refine li_4_3 5 dX1_joinedToAny_4 rfl ?_
    refine la_4_0 6 dX1_joinedToAny_5 rfl ?_
    refine vgq_X1_36 hb hC rfl 9 dX1_joinedToAny_6 rfl ?_
    refine v_icmp_ge 36 12 dX1_joinedToAny_9 rfl rfl (fun h9 => ?_) (fun h9 => ?_)
    · obtain rfl := ge_eq h9 hi (by omega)
      refine li_4_2 37 dX1_joinedToAny_36 rfl ?_
      refine v_iret dX1_joinedToAny_37 rfl ?_
      exact hQ
    · have hlt := ge_lt h9 (by omega) (by omega)
      refine li_4_1 13 dX1_joinedToAny_12 rfl ?_
      refine li_4_3 14 dX1_joinedToAny_13 rfl ?_
      refine v_ishr 15 dX1_joinedToAny_14 rfl ?_
      refine v_iconst (v := 1) 16 dX1_joinedToAny_15 rfl ki_1 ?_
      refine v_iand 17 dX1_joinedToAny_16 rfl ?_
      refine v_iconst (v := 1) 18 dX1_joinedToAny_17 rfl ki_1 ?_
      refine v_icmp_ne 30 21 dX1_joinedToAny_18 rfl rfl (fun h18 => ?_) (fun h18 => ?_)
      · refine icn_4_3 rfl 33 dX1_joinedToAny_30 rfl rfl ?_
        refine v_goto 4 dX1_joinedToAny_33 rfl ?_
        have e := ih hlt
        simp only [jtP, bit, h18, decide_true, decide_false, Bool.true_and, Bool.false_and, Bool.and_true, Bool.and_false, not_true_eq_false, not_false_eq_true, reduceIte, Bool.false_eq_true] at e
        exact e
      · refine li_4_2 22 dX1_joinedToAny_21 rfl ?_
        refine la_4_0 23 dX1_joinedToAny_22 rfl ?_
        refine vg_X1_21 hb rfl 26 dX1_joinedToAny_23 rfl ?_
        refine li_4_3 27 dX1_joinedToAny_26 rfl ?_
        refine vlq_X1_joined hb hC _ 28 dX1_joinedToAny_27 rfl rfl (by omega) ?_
        refine v_ior 29 dX1_joinedToAny_28 rfl ?_
        refine si_4_2 rfl 30 dX1_joinedToAny_29 rfl rfl ?_
        refine icn_4_3 rfl 33 dX1_joinedToAny_30 rfl rfl ?_
        refine v_goto 4 dX1_joinedToAny_33 rfl ?_
        have e := ih hlt
        simp only [jtP, bit, h18, decide_true, decide_false, Bool.true_and, Bool.false_and, Bool.and_true, Bool.and_false, not_true_eq_false, not_false_eq_true, reduceIte, Bool.false_eq_true] at e
        exact e
  refine v_iconst (v := 0) 1 dX1_joinedToAny_0 rfl ki_0 ?_
  refine si_4_2 rfl 2 dX1_joinedToAny_1 rfl rfl ?_
  refine v_iconst (v := 0) 3 dX1_joinedToAny_2 rfl ki_0 ?_
  refine si_4_3 rfl 4 dX1_joinedToAny_3 rfl rfl ?_
  exact key 0 (Nat.zero_le _)
def endsP (P : PT) : Int32 := suB (fun s => if bit (aliveP P) s then bcF (P.2 3 s &&& aliveP P) else 0) P.1.1
set_option maxHeartbeats 4000000 in
set_option maxRecDepth 100000 in
theorem c_X1_livingPairs {b : Nat} (hb : b < 2) {w : Wd} {P : PT} (hC : isC w b P) {Q : Option Value → Wd → Prop} (hQ : Q (some (.int (endsP P / 2))) w) : V mX1_livingPairs 0 [some (.ref (pr b)), none, none, none] [] w Q := by
  have h5 := hC.2.2.2.2.1
  have h4 := hC.2.2.2.2.2.1
  have key : ∀ i, i ≤ P.1.1 → V mX1_livingPairs 9 [some (.ref (pr b)), some (.int (aliveP P)), some (.int (suB (fun s => if bit (aliveP P) s then bcF (P.2 3 s &&& aliveP P) else 0) i)), some (.int (nI i))] [] w Q := by
    refine up (fun i hi ih => ?_)
    refine li_4_3 10 dX1_livingPairs_9 rfl ?_
    refine la_4_0 11 dX1_livingPairs_10 rfl ?_
    refine vgq_X1_36 hb hC rfl 14 dX1_livingPairs_11 rfl ?_
    refine v_icmp_ge 50 17 dX1_livingPairs_14 rfl rfl (fun h14 => ?_) (fun h14 => ?_)
    · obtain rfl := ge_eq h14 hi (by omega)
      refine li_4_2 51 dX1_livingPairs_50 rfl ?_
      refine v_iconst (v := 2) 52 dX1_livingPairs_51 rfl ki_2 ?_
      refine v_idiv 53 dX1_livingPairs_52 rfl (by decide) ?_
      refine v_iret dX1_livingPairs_53 rfl ?_
      exact hQ
    · have hlt := ge_lt h14 (by omega) (by omega)
      refine li_4_2 18 dX1_livingPairs_17 rfl ?_
      refine li_4_1 19 dX1_livingPairs_18 rfl ?_
      refine li_4_3 20 dX1_livingPairs_19 rfl ?_
      refine v_ishr 21 dX1_livingPairs_20 rfl ?_
      refine v_iconst (v := 1) 22 dX1_livingPairs_21 rfl ki_1 ?_
      refine v_iand 23 dX1_livingPairs_22 rfl ?_
      refine v_iconst (v := 1) 24 dX1_livingPairs_23 rfl ki_1 ?_
      refine v_icmp_ne 41 27 dX1_livingPairs_24 rfl rfl (fun h24 => ?_) (fun h24 => ?_)
      · refine v_iconst (v := 0) 42 dX1_livingPairs_41 rfl ki_0 ?_
        refine v_iadd 43 dX1_livingPairs_42 rfl ?_
        refine si_4_2 rfl 44 dX1_livingPairs_43 rfl rfl ?_
        refine icn_4_3 rfl 47 dX1_livingPairs_44 rfl rfl ?_
        refine v_goto 9 dX1_livingPairs_47 rfl ?_
        have e := ih hlt
        simp only [orB, suB, bit, h24, decide_true, decide_false, Bool.true_and, Bool.false_and, Bool.and_true, Bool.and_false, not_true_eq_false, not_false_eq_true, reduceIte, Bool.false_eq_true] at e
        exact e
      · refine la_4_0 28 dX1_livingPairs_27 rfl ?_
        refine vg_X1_21 hb rfl 31 dX1_livingPairs_28 rfl ?_
        refine li_4_3 32 dX1_livingPairs_31 rfl ?_
        refine vlq_X1_joined hb hC _ 33 dX1_livingPairs_32 rfl rfl (by omega) ?_
        refine li_4_1 34 dX1_livingPairs_33 rfl ?_
        refine v_iand 35 dX1_livingPairs_34 rfl ?_
        refine v_cSI1 38 dX1_livingPairs_35 rfl fvJ6_bitCount_0f7a4 fsJ6_bitCount_0f7a4 ml_X1_99 ⟨(Nat.le_of_ble_eq_true rfl), (Nat.le_of_ble_eq_true rfl)⟩ (Nat.le_of_ble_eq_true rfl) (Nat.le_of_ble_eq_true rfl) (c_bitCount ⟨_, rfl, ?_⟩) rfl
        refine v_goto 42 dX1_livingPairs_38 rfl ?_
        refine v_iadd 43 dX1_livingPairs_42 rfl ?_
        refine si_4_2 rfl 44 dX1_livingPairs_43 rfl rfl ?_
        refine icn_4_3 rfl 47 dX1_livingPairs_44 rfl rfl ?_
        refine v_goto 9 dX1_livingPairs_47 rfl ?_
        have e := ih hlt
        simp only [orB, suB, bit, h24, decide_true, decide_false, Bool.true_and, Bool.false_and, Bool.and_true, Bool.and_false, not_true_eq_false, not_false_eq_true, reduceIte, Bool.false_eq_true] at e
        exact e
  refine la_4_0 1 dX1_livingPairs_0 rfl ?_
  refine v_cVI0 4 dX1_livingPairs_1 rfl fvX1_aliveBits fiX1_aliveBits ml_X1_90 (seX1 hb) rfl ⟨(Nat.le_of_ble_eq_true rfl), (Nat.le_of_ble_eq_true rfl)⟩ (Nat.le_of_ble_eq_true rfl) (Nat.le_of_ble_eq_true rfl) (c_X1_aliveBits hb hC ⟨_, rfl, ?_⟩) rfl
  refine si_4_1 rfl 5 dX1_livingPairs_4 rfl rfl ?_
  refine v_iconst (v := 0) 6 dX1_livingPairs_5 rfl ki_0 ?_
  refine si_4_2 rfl 7 dX1_livingPairs_6 rfl rfl ?_
  refine v_iconst (v := 0) 8 dX1_livingPairs_7 rfl ki_0 ?_
  refine si_4_3 rfl 9 dX1_livingPairs_8 rfl rfl ?_
  exact key 0 (Nat.zero_le _)
set_option maxHeartbeats 4000000 in
set_option maxRecDepth 100000 in
theorem c_X1_canStick {b : Nat} (hb : b < 2) {w : Wd} {P : PT} (hC : isC w b P) {i l : Int32} {Q : Option Value → Wd → Prop} (hT : stickQ P i l → Q (some (.int 1)) w) (hF : ¬ stickQ P i l → Q (some (.int 0)) w) : V mX1_canStick 0 [some (.ref (pr b)), some (.int i), some (.int l)] [] w Q := by
  have h5 := hC.2.2.2.2.1
  have h4 := hC.2.2.2.2.2.1
  refine la_3_0 1 dX1_canStick_0 rfl ?_
  refine li_3_1 2 dX1_canStick_1 rfl ?_
  refine v_cVI1 5 dX1_canStick_2 rfl fvX1_hasStamp fiX1_hasStamp ml_X1_62 (seX1 hb) rfl ⟨(Nat.le_of_ble_eq_true rfl), (Nat.le_of_ble_eq_true rfl)⟩ (Nat.le_of_ble_eq_true rfl) (Nat.le_of_ble_eq_true rfl) (c_X1_hasStamp hb hC (fun q2 => ⟨_, rfl, ?_⟩) (fun q2 => ⟨_, rfl, ?_⟩)) rfl
  · obtain ⟨k, hk, rfl⟩ := q2
    refine v_if_eq 48 8 dX1_canStick_5 rfl rfl (fun h => absurd h (by decide)) (fun _ => ?_)
    refine la_3_0 9 dX1_canStick_8 rfl ?_
    refine li_3_2 10 dX1_canStick_9 rfl ?_
    refine v_cVI1 13 dX1_canStick_10 rfl fvX1_hasLetter fiX1_hasLetter ml_X1_104 (seX1 hb) rfl ⟨(Nat.le_of_ble_eq_true rfl), (Nat.le_of_ble_eq_true rfl)⟩ (Nat.le_of_ble_eq_true rfl) (Nat.le_of_ble_eq_true rfl) (c_X1_hasLetter hb hC (fun q10 => ⟨_, rfl, ?_⟩) (fun q10 => ⟨_, rfl, ?_⟩)) rfl
    · obtain ⟨m, hm, rfl⟩ := q10
      refine v_if_eq 48 16 dX1_canStick_13 rfl rfl (fun h => absurd h (by decide)) (fun _ => ?_)
      refine la_3_0 17 dX1_canStick_16 rfl ?_
      refine li_3_1 18 dX1_canStick_17 rfl ?_
      refine v_cVI1 21 dX1_canStick_18 rfl fvX1_isAlive fiX1_isAlive ml_X1_87 (seX1 hb) rfl ⟨(Nat.le_of_ble_eq_true rfl), (Nat.le_of_ble_eq_true rfl)⟩ (Nat.le_of_ble_eq_true rfl) (Nat.le_of_ble_eq_true rfl) (c_X1_isAlive hb hC (by omega) (fun q18 => ⟨_, rfl, ?_⟩) (fun q18 => ⟨_, rfl, ?_⟩)) rfl
      · refine v_if_eq 48 24 dX1_canStick_21 rfl rfl (fun h => absurd h (by decide)) (fun _ => ?_)
        refine la_3_0 25 dX1_canStick_24 rfl ?_
        refine vg_X1_24 hb rfl 28 dX1_canStick_25 rfl ?_
        refine li_3_1 29 dX1_canStick_28 rfl ?_
        refine vlq_X1_on hb hC _ 30 dX1_canStick_29 rfl rfl (by omega) ?_
        refine v_bipush (v := (-9)) 32 dX1_canStick_30 rfl kb_m9 ?_
        refine v_icmp_ne 48 35 dX1_canStick_32 rfl rfl (fun h32 => ?_) (fun h32 => ?_)
        · refine v_iconst (v := 0) 49 dX1_canStick_48 rfl ki_0 ?_
          refine v_zret dX1_canStick_49 rfl (Or.inl rfl) ?_
          exact hF (by rw [stickQ_i h5 h4 hk hm]; exact fun q => h32 q.2.1)
        · refine la_3_0 36 dX1_canStick_35 rfl ?_
          refine vg_X1_33 hb rfl 39 dX1_canStick_36 rfl ?_
          refine li_3_2 40 dX1_canStick_39 rfl ?_
          refine vlq_X1_fate hb hC _ 41 dX1_canStick_40 rfl rfl (by omega) ?_
          refine v_if_ne 48 44 dX1_canStick_41 rfl rfl (fun h41 => ?_) (fun h41 => ?_)
          · refine v_iconst (v := 0) 49 dX1_canStick_48 rfl ki_0 ?_
            refine v_zret dX1_canStick_49 rfl (Or.inl rfl) ?_
            exact hF (by rw [stickQ_i h5 h4 hk hm]; exact fun q => h41 q.2.2)
          · refine v_iconst (v := 1) 45 dX1_canStick_44 rfl ki_1 ?_
            refine v_goto 49 dX1_canStick_45 rfl ?_
            refine v_zret dX1_canStick_49 rfl (Or.inr rfl) ?_
            exact hT ((stickQ_i h5 h4 hk hm).mpr ⟨q18, h32, h41⟩)
      · refine v_if_eq 48 24 dX1_canStick_21 rfl rfl (fun _ => ?_) (fun h => absurd rfl h)
        refine v_iconst (v := 0) 49 dX1_canStick_48 rfl ki_0 ?_
        refine v_zret dX1_canStick_49 rfl (Or.inl rfl) ?_
        exact hF (by rw [stickQ_i h5 h4 hk hm]; exact fun q => by rw [q18] at q; exact absurd q.1 (by decide))
    · refine v_if_eq 48 16 dX1_canStick_13 rfl rfl (fun _ => ?_) (fun h => absurd rfl h)
      refine v_iconst (v := 0) 49 dX1_canStick_48 rfl ki_0 ?_
      refine v_zret dX1_canStick_49 rfl (Or.inl rfl) ?_
      exact hF (fun ⟨_, m, _, hm, _, e, _⟩ => q10 ⟨m, hm, e⟩)
  · refine v_if_eq 48 8 dX1_canStick_5 rfl rfl (fun _ => ?_) (fun h => absurd rfl h)
    refine v_iconst (v := 0) 49 dX1_canStick_48 rfl ki_0 ?_
    refine v_zret dX1_canStick_49 rfl (Or.inl rfl) ?_
    exact hF (fun ⟨k, _, hk, _, e, _⟩ => q2 ⟨k, hk, e⟩)
set_option maxHeartbeats 4000000 in
set_option maxRecDepth 100000 in
theorem c_X1_canSend {b : Nat} (hb : b < 2) {w : Wd} {P : PT} (hC : isC w b P) {l : Int32} {Q : Option Value → Wd → Prop} (hT : sendQ P l → Q (some (.int 1)) w) (hF : ¬ sendQ P l → Q (some (.int 0)) w) : V mX1_canSend 0 [some (.ref (pr b)), some (.int l)] [] w Q := by
  have h5 := hC.2.2.2.2.1
  have h4 := hC.2.2.2.2.2.1
  refine la_2_0 1 dX1_canSend_0 rfl ?_
  refine li_2_1 2 dX1_canSend_1 rfl ?_
  refine v_cVI1 5 dX1_canSend_2 rfl fvX1_hasLetter fiX1_hasLetter ml_X1_104 (seX1 hb) rfl ⟨(Nat.le_of_ble_eq_true rfl), (Nat.le_of_ble_eq_true rfl)⟩ (Nat.le_of_ble_eq_true rfl) (Nat.le_of_ble_eq_true rfl) (c_X1_hasLetter hb hC (fun q2 => ⟨_, rfl, ?_⟩) (fun q2 => ⟨_, rfl, ?_⟩)) rfl
  · obtain ⟨m, hm, rfl⟩ := q2
    refine v_if_eq 39 8 dX1_canSend_5 rfl rfl (fun h => absurd h (by decide)) (fun _ => ?_)
    refine la_2_0 9 dX1_canSend_8 rfl ?_
    refine vg_X1_33 hb rfl 12 dX1_canSend_9 rfl ?_
    refine li_2_1 13 dX1_canSend_12 rfl ?_
    refine vlq_X1_fate hb hC _ 14 dX1_canSend_13 rfl rfl (by omega) ?_
    refine v_if_ne 39 17 dX1_canSend_14 rfl rfl (fun h14 => ?_) (fun h14 => ?_)
    · refine v_iconst (v := 0) 40 dX1_canSend_39 rfl ki_0 ?_
      refine v_zret dX1_canSend_40 rfl (Or.inl rfl) ?_
      exact hF (by rw [sendQ_i h4 hm]; exact fun q => h14 q.1)
    · refine la_2_0 18 dX1_canSend_17 rfl ?_
      refine la_2_0 19 dX1_canSend_18 rfl ?_
      refine li_2_1 20 dX1_canSend_19 rfl ?_
      refine v_cVI1 23 dX1_canSend_20 rfl fvX1_stuckBits fiX1_stuckBits ml_X1_110 (seX1 hb) rfl ⟨(Nat.le_of_ble_eq_true rfl), (Nat.le_of_ble_eq_true rfl)⟩ (Nat.le_of_ble_eq_true rfl) (Nat.le_of_ble_eq_true rfl) (c_X1_stuckBits hb hC ⟨_, rfl, ?_⟩) rfl
      refine v_cVI1 26 dX1_canSend_23 rfl fvX1_goodFor fiX1_goodFor ml_X1_96 (seX1 hb) rfl ⟨(Nat.le_of_ble_eq_true rfl), (Nat.le_of_ble_eq_true rfl)⟩ (Nat.le_of_ble_eq_true rfl) (Nat.le_of_ble_eq_true rfl) (c_X1_goodFor hb hC ⟨_, rfl, ?_⟩) rfl
      refine la_2_0 27 dX1_canSend_26 rfl ?_
      refine vg_X1_30 hb rfl 30 dX1_canSend_27 rfl ?_
      refine li_2_1 31 dX1_canSend_30 rfl ?_
      refine vlq_X1_cost hb hC _ 32 dX1_canSend_31 rfl rfl (by omega) ?_
      refine v_icmp_lt 39 35 dX1_canSend_32 rfl rfl (fun h32 => ?_) (fun h32 => ?_)
      · refine v_iconst (v := 0) 40 dX1_canSend_39 rfl ki_0 ?_
        refine v_zret dX1_canSend_40 rfl (Or.inl rfl) ?_
        exact hF (by rw [sendQ_i h4 hm]; exact fun q => i_nle.mpr h32 q.2)
      · refine v_iconst (v := 1) 36 dX1_canSend_35 rfl ki_1 ?_
        refine v_goto 40 dX1_canSend_36 rfl ?_
        refine v_zret dX1_canSend_40 rfl (Or.inr rfl) ?_
        exact hT ((sendQ_i h4 hm).mpr ⟨h14, i_nlt.mp h32⟩)
  · refine v_if_eq 39 8 dX1_canSend_5 rfl rfl (fun _ => ?_) (fun h => absurd rfl h)
    refine v_iconst (v := 0) 40 dX1_canSend_39 rfl ki_0 ?_
    refine v_zret dX1_canSend_40 rfl (Or.inl rfl) ?_
    exact hF (fun ⟨m, hm, e, _⟩ => q2 ⟨m, hm, e⟩)
def hitF (h : Int32) : Int32 := if 0 < h - 1 then h - 1 else 0
def stickP (P : PT) (k : Nat) (l : Int32) : PT := setP (setP P 4 k l) 1 k (hitF (P.2 1 k))
def sendP (P : PT) (m : Nat) : PT := setP P 7 m 1
def cutF (x : Int32) (k : Nat) : Int32 := x &&& (1 <<< (nI k &&& 31) ^^^ (-1))
def part1 (P : PT) (k m : Nat) : PT := setP P 3 k (cutF (P.2 3 k) m)
def partP (P : PT) (k m : Nat) : PT := growP (part1 (part1 P k m) m k) (1 <<< (nI k &&& 31) ||| 1 <<< (nI m &&& 31)) 1
set_option maxHeartbeats 4000000 in
set_option maxRecDepth 100000 in
theorem c_X1_stickOn {b : Nat} (hb : b < 2) {w : Wd} {P : PT} (hC : isC w b P) {k : Nat} (hk : k < P.1.1) {l : Int32} {Q : Option Value → Wd → Prop} (hQ : ∀ u, isC u b (stickP P k l) → Fr b w u → Q none u) : V mX1_stickOn 0 [some (.ref (pr b)), some (.int (nI k)), some (.int l)] [] w Q := by
  have h5 := hC.2.2.2.2.1
  have h4 := hC.2.2.2.2.2.1
  refine la_3_0 1 dX1_stickOn_0 rfl ?_
  refine vg_X1_24 hb rfl 4 dX1_stickOn_1 rfl ?_
  refine li_3_1 5 dX1_stickOn_4 rfl ?_
  refine li_3_2 6 dX1_stickOn_5 rfl ?_
  refine vwq_X1_on hb hC _ 7 dX1_stickOn_6 rfl rfl hk (fun u1 hC1 hF1 => ?_)
  refine la_3_0 8 dX1_stickOn_7 rfl ?_
  refine vg_X1_15 hb rfl 11 dX1_stickOn_8 rfl ?_
  refine li_3_1 12 dX1_stickOn_11 rfl ?_
  refine v_iconst (v := 0) 13 dX1_stickOn_12 rfl ki_0 ?_
  refine la_3_0 14 dX1_stickOn_13 rfl ?_
  refine vg_X1_15 hb rfl 17 dX1_stickOn_14 rfl ?_
  refine li_3_1 18 dX1_stickOn_17 rfl ?_
  refine vlq_X1_health hb hC1 _ 19 dX1_stickOn_18 rfl rfl hk ?_
  refine v_iconst (v := 1) 20 dX1_stickOn_19 rfl ki_1 ?_
  refine v_isub 21 dX1_stickOn_20 rfl ?_
  refine v_mmax 24 dX1_stickOn_21 rfl ml_X1_107 (by decide) (by decide) (Nat.le_of_ble_eq_true rfl) ?_
  refine vwq_X1_health hb hC1 _ 25 dX1_stickOn_24 rfl rfl hk (fun u2 hC2 hF2 => ?_)
  refine v_vret dX1_stickOn_25 rfl ?_
  exact hQ _ (by simpa [stickP, hitF, setP] using hC2) (hF1.tr hF2)
set_option maxHeartbeats 4000000 in
set_option maxRecDepth 100000 in
theorem c_X1_sendOff {b : Nat} (hb : b < 2) {w : Wd} {P : PT} (hC : isC w b P) {m : Nat} (hm : m < P.1.2.1) {Q : Option Value → Wd → Prop} (hQ : ∀ u, isC u b (sendP P m) → Fr b w u → Q none u) : V mX1_sendOff 0 [some (.ref (pr b)), some (.int (nI m))] [] w Q := by
  have h5 := hC.2.2.2.2.1
  have h4 := hC.2.2.2.2.2.1
  refine la_2_0 1 dX1_sendOff_0 rfl ?_
  refine vg_X1_33 hb rfl 4 dX1_sendOff_1 rfl ?_
  refine li_2_1 5 dX1_sendOff_4 rfl ?_
  refine v_iconst (v := 1) 6 dX1_sendOff_5 rfl ki_1 ?_
  refine vwq_X1_fate hb hC _ 7 dX1_sendOff_6 rfl rfl (by omega) (fun u1 hC1 hF1 => ?_)
  refine v_vret dX1_sendOff_7 rfl ?_
  exact hQ _ hC1 hF1
set_option maxHeartbeats 4000000 in
set_option maxRecDepth 100000 in
theorem c_X1_growOlder {b : Nat} (hb : b < 2) {w : Wd} {P : PT} (hC : isC w b P) {x k : Int32} {Q : Option Value → Wd → Prop} (hQ : ∀ u, isC u b (growP P x k) → Fr b w u → Q none u) : V mX1_growOlder 0 [some (.ref (pr b)), some (.int x), some (.int k), none] [] w Q := by
  have h5 := hC.2.2.2.2.1
  have h4 := hC.2.2.2.2.2.1
  have key : ∀ i, i ≤ P.1.1 → ∀ u, isC u b (growI P x k i) → Fr b w u → V mX1_growOlder 2 [some (.ref (pr b)), some (.int x), some (.int k), some (.int (nI i))] [] u Q := by
    refine up (P := fun i => ∀ u, isC u b (growI P x k i) → Fr b w u → V mX1_growOlder 2 [some (.ref (pr b)), some (.int x), some (.int k), some (.int (nI i))] [] u Q) (fun i hi ih => ?_)
    intro u hC0 hF0
    refine li_4_3 3 dX1_growOlder_2 rfl ?_
    refine la_4_0 4 dX1_growOlder_3 rfl ?_
    refine vgq_X1_36 hb hC0 rfl 7 dX1_growOlder_4 rfl ?_
    refine v_icmp_ge 45 10 dX1_growOlder_7 rfl rfl (fun h7 => ?_) (fun h7 => ?_)
    · have h7 : nI P.1.1 ≤ nI i := h7
      obtain rfl := ge_eq h7 hi (by omega)
      refine v_vret dX1_growOlder_45 rfl ?_
      exact hQ u hC0 hF0
    · have h7 : ¬ nI P.1.1 ≤ nI i := h7
      have hlt := ge_lt h7 (by omega) (by omega)
      refine li_4_1 11 dX1_growOlder_10 rfl ?_
      refine li_4_3 12 dX1_growOlder_11 rfl ?_
      refine v_ishr 13 dX1_growOlder_12 rfl ?_
      refine v_iconst (v := 1) 14 dX1_growOlder_13 rfl ki_1 ?_
      refine v_iand 15 dX1_growOlder_14 rfl ?_
      refine v_iconst (v := 1) 16 dX1_growOlder_15 rfl ki_1 ?_
      refine v_icmp_ne 39 19 dX1_growOlder_16 rfl rfl (fun h16 => ?_) (fun h16 => ?_)
      · refine icn_4_3 rfl 42 dX1_growOlder_39 rfl rfl ?_
        refine v_goto 2 dX1_growOlder_42 rfl ?_
        exact ih hlt u (hC0.eq (growI_n (fun q => h16 (by simpa [bit] using q.1)))) hF0
      · refine la_4_0 20 dX1_growOlder_19 rfl ?_
        refine vg_X1_18 hb rfl 23 dX1_growOlder_20 rfl ?_
        refine li_4_3 24 dX1_growOlder_23 rfl ?_
        refine vlq_X1_kind hb hC0 _ 25 dX1_growOlder_24 rfl rfl hlt ?_
        refine v_iconst (v := 3) 26 dX1_growOlder_25 rfl ki_3 ?_
        refine v_icmp_eq 39 29 dX1_growOlder_26 rfl rfl (fun h26 => ?_) (fun h26 => ?_)
        · refine icn_4_3 rfl 42 dX1_growOlder_39 rfl rfl ?_
          refine v_goto 2 dX1_growOlder_42 rfl ?_
          exact ih hlt u (hC0.eq (growI_n (fun q => q.2 (by simpa [growI] using h26)))) hF0
        · refine la_4_0 30 dX1_growOlder_29 rfl ?_
          refine vg_X1_9 hb rfl 33 dX1_growOlder_30 rfl ?_
          refine li_4_3 34 dX1_growOlder_33 rfl ?_
          refine v_dup2 35 dX1_growOlder_34 rfl rfl rfl ?_
          refine vlq_X1_age hb hC0 _ 36 dX1_growOlder_35 rfl rfl hlt ?_
          refine li_4_2 37 dX1_growOlder_36 rfl ?_
          refine v_iadd 38 dX1_growOlder_37 rfl ?_
          refine vwq_X1_age hb hC0 _ 39 dX1_growOlder_38 rfl rfl hlt (fun u1 hC1 hF1 => ?_)
          refine icn_4_3 rfl 42 dX1_growOlder_39 rfl rfl ?_
          refine v_goto 2 dX1_growOlder_42 rfl ?_
          exact ih hlt _ (hC1.eq (growI_s (by simpa [bit] using h16) (by simpa [growI] using h26))) (hF0.tr hF1)
  refine v_iconst (v := 0) 1 dX1_growOlder_0 rfl ki_0 ?_
  refine si_4_3 rfl 2 dX1_growOlder_1 rfl rfl ?_
  exact key 0 (Nat.zero_le _) w (hC.eq (growI_0 P x k)) Fr.rf
set_option maxHeartbeats 4000000 in
set_option maxRecDepth 100000 in
theorem c_X1_partTwo {b : Nat} (hb : b < 2) {w : Wd} {P : PT} (hC : isC w b P) {k m : Nat} (hk : k < P.1.1) (hm : m < P.1.1) {Q : Option Value → Wd → Prop} (hQ : ∀ u, isC u b (partP P k m) → Fr b w u → Q none u) : V mX1_partTwo 0 [some (.ref (pr b)), some (.int (nI k)), some (.int (nI m))] [] w Q := by
  have h5 := hC.2.2.2.2.1
  have h4 := hC.2.2.2.2.2.1
  refine la_3_0 1 dX1_partTwo_0 rfl ?_
  refine vg_X1_21 hb rfl 4 dX1_partTwo_1 rfl ?_
  refine li_3_1 5 dX1_partTwo_4 rfl ?_
  refine v_dup2 6 dX1_partTwo_5 rfl rfl rfl ?_
  refine vlq_X1_joined hb hC _ 7 dX1_partTwo_6 rfl rfl hk ?_
  refine v_iconst (v := 1) 8 dX1_partTwo_7 rfl ki_1 ?_
  refine li_3_2 9 dX1_partTwo_8 rfl ?_
  refine v_ishl 10 dX1_partTwo_9 rfl ?_
  refine v_iconst (v := (-1)) 11 dX1_partTwo_10 rfl ki_m1 ?_
  refine v_ixor 12 dX1_partTwo_11 rfl ?_
  refine v_iand 13 dX1_partTwo_12 rfl ?_
  refine vwq_X1_joined hb hC _ 14 dX1_partTwo_13 rfl rfl hk (fun u1 hC1 hF1 => ?_)
  refine la_3_0 15 dX1_partTwo_14 rfl ?_
  refine vg_X1_21 hb rfl 18 dX1_partTwo_15 rfl ?_
  refine li_3_2 19 dX1_partTwo_18 rfl ?_
  refine v_dup2 20 dX1_partTwo_19 rfl rfl rfl ?_
  refine vlq_X1_joined hb hC1 _ 21 dX1_partTwo_20 rfl rfl hm ?_
  refine v_iconst (v := 1) 22 dX1_partTwo_21 rfl ki_1 ?_
  refine li_3_1 23 dX1_partTwo_22 rfl ?_
  refine v_ishl 24 dX1_partTwo_23 rfl ?_
  refine v_iconst (v := (-1)) 25 dX1_partTwo_24 rfl ki_m1 ?_
  refine v_ixor 26 dX1_partTwo_25 rfl ?_
  refine v_iand 27 dX1_partTwo_26 rfl ?_
  refine vwq_X1_joined hb hC1 _ 28 dX1_partTwo_27 rfl rfl hm (fun u2 hC2 hF2 => ?_)
  refine la_3_0 29 dX1_partTwo_28 rfl ?_
  refine v_iconst (v := 1) 30 dX1_partTwo_29 rfl ki_1 ?_
  refine li_3_1 31 dX1_partTwo_30 rfl ?_
  refine v_ishl 32 dX1_partTwo_31 rfl ?_
  refine v_iconst (v := 1) 33 dX1_partTwo_32 rfl ki_1 ?_
  refine li_3_2 34 dX1_partTwo_33 rfl ?_
  refine v_ishl 35 dX1_partTwo_34 rfl ?_
  refine v_ior 36 dX1_partTwo_35 rfl ?_
  refine v_iconst (v := 1) 37 dX1_partTwo_36 rfl ki_1 ?_
  refine v_cVN2 40 dX1_partTwo_37 rfl fvX1_growOlder fiX1_growOlder ml_X1_113 (seX1 hb) rfl ⟨(Nat.le_of_ble_eq_true rfl), (Nat.le_of_ble_eq_true rfl)⟩ (Nat.le_of_ble_eq_true rfl) (Nat.le_of_ble_eq_true rfl) (c_X1_growOlder hb hC2 (fun u3 hC3 hF3 => ⟨rfl, ?_⟩)) rfl
  refine v_vret dX1_partTwo_40 rfl ?_
  exact hQ _ hC3 (hF1.tr (hF2.tr hF3))
def carP (P : PT) (m : Nat) : PT := if 0 < P.2 5 m - 1 then setP P 5 m (P.2 5 m - 1) else setP (setP P 5 m (P.2 5 m - 1)) 7 m (if ¬ stuckP P (nI m) &&& aliveP P = 0 then 2 else 3)
def grR (P : PT) : PT := growP (growP P (aliveP P) (if P.1.2.2.2 = 0 then 1 else 2)) (widP (growP P (aliveP P) (if P.1.2.2.2 = 0 then 1 else 2))) 2
theorem passP_eq (P : PT) : passP P = weekP (carI (grR P) P.1.2.1) (P.1.2.2.1 + 1) := rfl
theorem stuck_5 {P : PT} {m : Nat} {x l : Int32} : stuckP (setP P 5 m x) l = stuckP P l := by simp [stuckP, setP]
theorem alive_5 {P : PT} {m : Nat} {x : Int32} : aliveP (setP P 5 m x) = aliveP P := by
  have : alP (setP P 5 m x) = alP P := by funext s; simp [alP, setP]
  unfold aliveP; rw [this]; rfl
theorem car_row {P : PT} {i j s : Nat} (h5 : ¬ j = 5) (h7 : ¬ j = 7) : (carI P i).2 j s = P.2 j s := by simp [carI, h5, h7]
theorem car_stuck {P : PT} {i : Nat} {l : Int32} : stuckP (carI P i) l = stuckP P l := by
  unfold stuckP; simp only [car_row (by decide : ¬ 4 = 5) (by decide : ¬ 4 = 7)]; rfl
theorem car_alive {P : PT} {i : Nat} : aliveP (carI P i) = aliveP P := by
  have : alP (carI P i) = alP P := by
    funext s
    simp only [alP, car_row (by decide : ¬ 0 = 5) (by decide : ¬ 0 = 7), car_row (by decide : ¬ 1 = 5) (by decide : ¬ 1 = 7), car_row (by decide : ¬ 2 = 5) (by decide : ¬ 2 = 7)]
  unfold aliveP; rw [this]; rfl
theorem carI_0 (P : PT) : PEq P (carI P 0) := ⟨rfl, fun j s _ _ => by simp [carI], fun j s _ _ _ => by simp [carI]⟩
theorem carI_at {P : PT} {i j : Nat} : (carI P i).2 j i = P.2 j i := by simp [carI]
theorem carI_n {P : PT} {i : Nat} (h : ¬ P.2 7 i = 1) : PEq (carI P i) (carI P (i + 1)) := by
  have e : ∀ j s, (carI P i).2 j s = (carI P (i + 1)).2 j s := by
    intro j s
    simp only [carI]
    by_cases hs : s = i
    · subst hs; rw [if_neg (by omega), if_neg (fun q => h q.2)]
    · have : (s < i + 1) ↔ s < i := by omega
      simp only [this]
  exact ⟨rfl, fun j s _ _ => e j s, fun j s _ _ _ => e j s⟩
theorem carI_s {P : PT} {i : Nat} (h : P.2 7 i = 1) : PEq (carP (carI P i) i) (carI P (i + 1)) := by
  have e0 : (carP (carI P i) i).1 = (carI P (i + 1)).1 := by unfold carP; split <;> rfl
  have e : ∀ j s, (carP (carI P i) i).2 j s = (carI P (i + 1)).2 j s := by
    intro j s
    unfold carP
    rw [car_stuck, car_alive, carI_at]
    by_cases hs : s = i
    · subst hs
      by_cases hl : 0 < P.2 5 s - 1
      · rw [if_pos hl]
        simp only [setP, carI, if_pos hl]
        by_cases j5 : j = 5
        · simp [j5, h]
        · by_cases j7 : j = 7
          · simp [j7, h]
          · simp [j5, j7]
      · rw [if_neg hl]
        simp only [setP, carI, if_neg hl]
        by_cases j5 : j = 5
        · simp [j5, h]
        · by_cases j7 : j = 7
          · simp [j7, h]
          · simp [j5, j7]
    · have hh : (s < i + 1) ↔ s < i := by omega
      by_cases hl : 0 < P.2 5 i - 1
      · rw [if_pos hl]; simp [setP, carI, hs, hh]
      · rw [if_neg hl]; simp [setP, carI, hs, hh]
  exact ⟨e0, fun j s _ _ => e j s, fun j s _ _ _ => e j s⟩
set_option maxHeartbeats 4000000 in
set_option maxRecDepth 100000 in
theorem c_X1_carry {b : Nat} (hb : b < 2) {w : Wd} {P : PT} (hC : isC w b P) {m : Nat} (hm : m < P.1.2.1) {Q : Option Value → Wd → Prop} (hQ : ∀ u, isC u b (carP P m) → Fr b w u → Q none u) : V mX1_carry 0 [some (.ref (pr b)), some (.int (nI m))] [] w Q := by
  have h5 := hC.2.2.2.2.1
  have h4 := hC.2.2.2.2.2.1
  refine la_2_0 1 dX1_carry_0 rfl ?_
  refine vg_X1_27 hb rfl 4 dX1_carry_1 rfl ?_
  refine li_2_1 5 dX1_carry_4 rfl ?_
  refine v_dup2 6 dX1_carry_5 rfl rfl rfl ?_
  refine vlq_X1_left hb hC _ 7 dX1_carry_6 rfl rfl hm ?_
  refine v_iconst (v := 1) 8 dX1_carry_7 rfl ki_1 ?_
  refine v_isub 9 dX1_carry_8 rfl ?_
  refine vwq_X1_left hb hC _ 10 dX1_carry_9 rfl rfl hm (fun u1 hC1 hF1 => ?_)
  refine la_2_0 11 dX1_carry_10 rfl ?_
  refine vg_X1_27 hb rfl 14 dX1_carry_11 rfl ?_
  refine li_2_1 15 dX1_carry_14 rfl ?_
  refine vlq_X1_left hb hC1 _ 16 dX1_carry_15 rfl rfl hm ?_
  refine v_if_gt 43 19 dX1_carry_16 rfl rfl (fun h16 => ?_) (fun h16 => ?_)
  · simp only [setP, and_self, reduceIte] at h16
    refine v_vret dX1_carry_43 rfl ?_
    exact hQ _ (by unfold carP; rw [if_pos h16]; exact hC1) hF1
  · simp only [setP, and_self, reduceIte] at h16
    refine la_2_0 20 dX1_carry_19 rfl ?_
    refine vg_X1_33 hb rfl 23 dX1_carry_20 rfl ?_
    refine li_2_1 24 dX1_carry_23 rfl ?_
    refine la_2_0 25 dX1_carry_24 rfl ?_
    refine li_2_1 26 dX1_carry_25 rfl ?_
    refine v_cVI1 29 dX1_carry_26 rfl fvX1_stuckBits fiX1_stuckBits ml_X1_110 (seX1 hb) rfl ⟨(Nat.le_of_ble_eq_true rfl), (Nat.le_of_ble_eq_true rfl)⟩ (Nat.le_of_ble_eq_true rfl) (Nat.le_of_ble_eq_true rfl) (c_X1_stuckBits hb hC1 ⟨_, rfl, ?_⟩) rfl
    refine la_2_0 30 dX1_carry_29 rfl ?_
    refine v_cVI0 33 dX1_carry_30 rfl fvX1_aliveBits fiX1_aliveBits ml_X1_90 (seX1 hb) rfl ⟨(Nat.le_of_ble_eq_true rfl), (Nat.le_of_ble_eq_true rfl)⟩ (Nat.le_of_ble_eq_true rfl) (Nat.le_of_ble_eq_true rfl) (c_X1_aliveBits hb hC1 ⟨_, rfl, ?_⟩) rfl
    refine v_iand 34 dX1_carry_33 rfl ?_
    refine v_if_eq 41 37 dX1_carry_34 rfl rfl (fun h34 => ?_) (fun h34 => ?_)
    · rw [stuck_5, alive_5] at h34
      refine v_iconst (v := 3) 42 dX1_carry_41 rfl ki_3 ?_
      refine vwq_X1_fate hb hC1 _ 43 dX1_carry_42 rfl rfl hm (fun u2 hC2 hF2 => ?_)
      refine v_vret dX1_carry_43 rfl ?_
      exact hQ _ (by unfold carP; rw [if_neg h16, if_neg (fun q => q h34)]; exact hC2) (hF1.tr hF2)
    · rw [stuck_5, alive_5] at h34
      refine v_iconst (v := 2) 38 dX1_carry_37 rfl ki_2 ?_
      refine v_goto 42 dX1_carry_38 rfl ?_
      refine vwq_X1_fate hb hC1 _ 43 dX1_carry_42 rfl rfl hm (fun u3 hC3 hF3 => ?_)
      refine v_vret dX1_carry_43 rfl ?_
      exact hQ _ (by unfold carP; rw [if_neg h16, if_pos h34]; exact hC3) (hF1.tr hF3)
set_option maxHeartbeats 4000000 in
set_option maxRecDepth 100000 in
theorem c_X1_passWeek {b : Nat} (hb : b < 2) {w : Wd} {P : PT} (hC : isC w b P) {Q : Option Value → Wd → Prop} (hQ : ∀ u, isC u b (passP P) → Fr b w u → Q none u) : V mX1_passWeek 0 [some (.ref (pr b)), none] [] w Q := by
  have h5 := hC.2.2.2.2.1
  have h4 := hC.2.2.2.2.2.1
  have key : ∀ i, i ≤ P.1.2.1 → ∀ u, isC u b (carI (grR P) i) → Fr b w u → V mX1_passWeek 31 [some (.ref (pr b)), some (.int (nI i))] [] u Q := by
    refine up (P := fun i => ∀ u, isC u b (carI (grR P) i) → Fr b w u → V mX1_passWeek 31 [some (.ref (pr b)), some (.int (nI i))] [] u Q) (fun i hi ih => ?_)
    intro u hC0 hF0
    refine li_2_1 32 dX1_passWeek_31 rfl ?_
    refine la_2_0 33 dX1_passWeek_32 rfl ?_
    refine vgq_X1_40 hb hC0 rfl 36 dX1_passWeek_33 rfl ?_
    refine v_icmp_ge 60 39 dX1_passWeek_36 rfl rfl (fun h36 => ?_) (fun h36 => ?_)
    · have h36 : nI P.1.2.1 ≤ nI i := h36
      obtain rfl := ge_eq h36 hi (by omega)
      refine la_2_0 61 dX1_passWeek_60 rfl ?_
      refine v_dup 62 dX1_passWeek_61 rfl rfl ?_
      refine vgq_X1_43 hb hC0 rfl 65 dX1_passWeek_62 rfl ?_
      refine v_iconst (v := 1) 66 dX1_passWeek_65 rfl ki_1 ?_
      refine v_iadd 67 dX1_passWeek_66 rfl ?_
      refine vs_X1_43 hb rfl 70 dX1_passWeek_67 rfl ?_
      refine v_vret dX1_passWeek_70 rfl ?_
      exact hQ _ (hC0.week) (hF0.tr (Fr.oI (by decide)))
    · have h36 : ¬ nI P.1.2.1 ≤ nI i := h36
      have hlt := ge_lt h36 (by omega) (by omega)
      refine la_2_0 40 dX1_passWeek_39 rfl ?_
      refine vg_X1_33 hb rfl 43 dX1_passWeek_40 rfl ?_
      refine li_2_1 44 dX1_passWeek_43 rfl ?_
      refine vlq_X1_fate hb hC0 _ 45 dX1_passWeek_44 rfl rfl hlt ?_
      refine v_iconst (v := 1) 46 dX1_passWeek_45 rfl ki_1 ?_
      refine v_icmp_ne 54 49 dX1_passWeek_46 rfl rfl (fun h46 => ?_) (fun h46 => ?_)
      · rw [carI_at] at h46
        refine icn_2_1 rfl 57 dX1_passWeek_54 rfl rfl ?_
        refine v_goto 31 dX1_passWeek_57 rfl ?_
        exact ih hlt u (hC0.eq (carI_n h46)) hF0
      · rw [carI_at] at h46
        refine la_2_0 50 dX1_passWeek_49 rfl ?_
        refine li_2_1 51 dX1_passWeek_50 rfl ?_
        refine v_cVN1 54 dX1_passWeek_51 rfl fvX1_carry fiX1_carry ml_X1_120 (seX1 hb) rfl ⟨(Nat.le_of_ble_eq_true rfl), (Nat.le_of_ble_eq_true rfl)⟩ (Nat.le_of_ble_eq_true rfl) (Nat.le_of_ble_eq_true rfl) (c_X1_carry hb hC0 hlt (fun u1 hC1 hF1 => ⟨rfl, ?_⟩)) rfl
        refine icn_2_1 rfl 57 dX1_passWeek_54 rfl rfl ?_
        refine v_goto 31 dX1_passWeek_57 rfl ?_
        exact ih hlt _ (hC1.eq (carI_s h46)) (hF0.tr hF1)
  refine la_2_0 1 dX1_passWeek_0 rfl ?_
  refine la_2_0 2 dX1_passWeek_1 rfl ?_
  refine v_cVI0 5 dX1_passWeek_2 rfl fvX1_aliveBits fiX1_aliveBits ml_X1_90 (seX1 hb) rfl ⟨(Nat.le_of_ble_eq_true rfl), (Nat.le_of_ble_eq_true rfl)⟩ (Nat.le_of_ble_eq_true rfl) (Nat.le_of_ble_eq_true rfl) (c_X1_aliveBits hb hC ⟨_, rfl, ?_⟩) rfl
  refine la_2_0 6 dX1_passWeek_5 rfl ?_
  refine vgq_X1_46 hb hC rfl 9 dX1_passWeek_6 rfl ?_
  refine v_if_eq 16 12 dX1_passWeek_9 rfl rfl (fun h9 => ?_) (fun h9 => ?_)
  · refine v_iconst (v := 1) 17 dX1_passWeek_16 rfl ki_1 ?_
    refine v_cVN2 20 dX1_passWeek_17 rfl fvX1_growOlder fiX1_growOlder ml_X1_113 (seX1 hb) rfl ⟨(Nat.le_of_ble_eq_true rfl), (Nat.le_of_ble_eq_true rfl)⟩ (Nat.le_of_ble_eq_true rfl) (Nat.le_of_ble_eq_true rfl) (c_X1_growOlder hb hC (fun u1 hC1 hF1 => ⟨rfl, ?_⟩)) rfl
    refine la_2_0 21 dX1_passWeek_20 rfl ?_
    refine la_2_0 22 dX1_passWeek_21 rfl ?_
    refine v_cVI0 25 dX1_passWeek_22 rfl fvX1_widowBits fiX1_widowBits ml_X1_117 (seX1 hb) rfl ⟨(Nat.le_of_ble_eq_true rfl), (Nat.le_of_ble_eq_true rfl)⟩ (Nat.le_of_ble_eq_true rfl) (Nat.le_of_ble_eq_true rfl) (c_X1_widowBits hb hC1 ⟨_, rfl, ?_⟩) rfl
    refine v_iconst (v := 2) 26 dX1_passWeek_25 rfl ki_2 ?_
    refine v_cVN2 29 dX1_passWeek_26 rfl fvX1_growOlder fiX1_growOlder ml_X1_113 (seX1 hb) rfl ⟨(Nat.le_of_ble_eq_true rfl), (Nat.le_of_ble_eq_true rfl)⟩ (Nat.le_of_ble_eq_true rfl) (Nat.le_of_ble_eq_true rfl) (c_X1_growOlder hb hC1 (fun u2 hC2 hF2 => ⟨rfl, ?_⟩)) rfl
    refine v_iconst (v := 0) 30 dX1_passWeek_29 rfl ki_0 ?_
    refine si_2_1 rfl 31 dX1_passWeek_30 rfl rfl ?_
    exact key 0 (Nat.zero_le _) _ (by simp only [grR, if_pos h9]; exact hC2.eq (carI_0 _)) (hF1.tr hF2)
  · refine v_iconst (v := 2) 13 dX1_passWeek_12 rfl ki_2 ?_
    refine v_goto 17 dX1_passWeek_13 rfl ?_
    refine v_cVN2 20 dX1_passWeek_17 rfl fvX1_growOlder fiX1_growOlder ml_X1_113 (seX1 hb) rfl ⟨(Nat.le_of_ble_eq_true rfl), (Nat.le_of_ble_eq_true rfl)⟩ (Nat.le_of_ble_eq_true rfl) (Nat.le_of_ble_eq_true rfl) (c_X1_growOlder hb hC (fun u3 hC3 hF3 => ⟨rfl, ?_⟩)) rfl
    refine la_2_0 21 dX1_passWeek_20 rfl ?_
    refine la_2_0 22 dX1_passWeek_21 rfl ?_
    refine v_cVI0 25 dX1_passWeek_22 rfl fvX1_widowBits fiX1_widowBits ml_X1_117 (seX1 hb) rfl ⟨(Nat.le_of_ble_eq_true rfl), (Nat.le_of_ble_eq_true rfl)⟩ (Nat.le_of_ble_eq_true rfl) (Nat.le_of_ble_eq_true rfl) (c_X1_widowBits hb hC3 ⟨_, rfl, ?_⟩) rfl
    refine v_iconst (v := 2) 26 dX1_passWeek_25 rfl ki_2 ?_
    refine v_cVN2 29 dX1_passWeek_26 rfl fvX1_growOlder fiX1_growOlder ml_X1_113 (seX1 hb) rfl ⟨(Nat.le_of_ble_eq_true rfl), (Nat.le_of_ble_eq_true rfl)⟩ (Nat.le_of_ble_eq_true rfl) (Nat.le_of_ble_eq_true rfl) (c_X1_growOlder hb hC3 (fun u4 hC4 hF4 => ⟨rfl, ?_⟩)) rfl
    refine v_iconst (v := 0) 30 dX1_passWeek_29 rfl ki_0 ?_
    refine si_2_1 rfl 31 dX1_passWeek_30 rfl rfl ?_
    exact key 0 (Nat.zero_le _) _ (by simp only [grR, if_neg h9]; exact hC4.eq (carI_0 _)) (hF3.tr hF4)

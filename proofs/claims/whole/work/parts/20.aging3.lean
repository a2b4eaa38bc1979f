noncomputable def ifP {α : Type} (p : Prop) (a b : α) : α := @ite α p (Classical.propDecidable p) a b
theorem ifP_pos {α : Type} {p : Prop} {a b : α} (h : p) : ifP p a b = a := by unfold ifP; exact if_pos h
theorem ifP_neg {α : Type} {p : Prop} {a b : α} (h : ¬ p) : ifP p a b = b := by unfold ifP; exact if_neg h
def inQ (i : Int32) (n : Nat) : Prop := ∃ k, k < n ∧ i = nI k
def kk (i : Int32) : Nat := i.toNatClampNeg
theorem kk_nI {k : Nat} (h : k < 2 ^ 31) : kk (nI k) = k := nI_clamp h
noncomputable def stickF (P : PT) (A : AT) (i l : Int32) : Int32 × PT × AT := ifP (¬ (inQ i P.1.1 ∧ inQ l P.1.2.1)) (-1, P, A) (ifP (¬ stickQ P i l) (-3, P, A) (bcF (stuckP (stickP P (kk i) l) l), stickP P (kk i) l, pushA A P))
noncomputable def sendF (P : PT) (A : AT) (l : Int32) : Int32 × PT × AT := ifP (¬ inQ l P.1.2.1) (-1, P, A) (ifP (¬ sendQ P l) (-3, P, A) (P.2 5 (kk l), sendP P (kk l), pushA A P))
noncomputable def partF (P : PT) (A : AT) (i j : Int32) : Int32 × PT × AT := ifP (¬ (inQ i P.1.1 ∧ inQ j P.1.1)) (-1, P, A) (ifP (¬ joinedQ P i j) (-3, P, A) (bcF ((partP P (kk i) (kk j)).2 3 (kk i)), partP P (kk i) (kk j), pushA A P))
def undoF (P : PT) (A : AT) : Int32 × PT × AT := if A.1 = 0 then (-3, P, A) else (nI (A.1 - 1), A.2 (A.1 - 1), (A.1 - 1, A.2))
noncomputable def keepF (P : PT) (U : Nat → Bool) (K : Nat → PT) (i : Int32) : Int32 × (Nat → Bool) × (Nat → PT) := ifP (¬ inQ i 2) (-1, U, K) (P.1.2.2.1, fun j => if j = kk i then true else U j, fun j => if j = kk i then P else K j)
noncomputable def againF (P : PT) (A : AT) (U : Nat → Bool) (K : Nat → PT) (i : Int32) : Int32 × PT × AT := ifP (¬ inQ i 2) (-1, P, A) (ifP (U (kk i) = false) (-3, P, A) ((K (kk i)).1.2.2.1, K (kk i), (0, A.2)))
noncomputable def seeF (n : Nat) (N : NT) (i k a : Int32) : Int32 × NT := ifP (¬ inQ i n) (-1, N) (ifP (¬ (inQ k 100 ∧ inQ a 2)) (-2, N) (ifP (N.1 = 6) (-4, N) (nI (N.1 + 1), (N.1 + 1, fun j => if j = N.1 then kk i else N.2.1 j, fun j => if j = N.1 then kk k else N.2.2.1 j, fun j => if j = N.1 then decide (a = 1) else N.2.2.2 j))))
theorem inQ_99 {x : Int32} (h1 : ¬ x < 0) (h2 : ¬ 99 < x) : inQ x 100 := inR (by decide) h1 (fun q => h2 (by rw [i_lt]; rw [i_le] at q; have : (nI 100).toInt = 100 := nI_toInt (by decide); have h : (99 : Int32).toInt = 99 := (by decide); omega))
theorem inQ_1 {x : Int32} (h1 : ¬ x < 0) (h2 : x ≤ 1) : inQ x 2 := inR (by decide) h1 (fun q => by rw [i_le] at q h2; have : (nI 2).toInt = 2 := nI_toInt (by decide); have h : (1 : Int32).toInt = 1 := (by decide); omega)
theorem nQ_99 {x : Int32} (h : 99 < x) : ¬ inQ x 100 := notR (by decide) (Or.inr (by rw [i_lt] at h; rw [i_le]; have : (nI 100).toInt = 100 := nI_toInt (by decide); have h : (99 : Int32).toInt = 99 := (by decide); omega))
theorem nQ_1 {x : Int32} (h : ¬ x ≤ 1) : ¬ inQ x 2 := notR (by decide) (Or.inr (by rw [i_le] at h; rw [i_le]; have : (nI 2).toInt = 2 := nI_toInt (by decide); have h : (1 : Int32).toInt = 1 := (by decide); omega))
theorem nQ_0 {x : Int32} {n : Nat} (hn : n < 2 ^ 31) (h : x < 0) : ¬ inQ x n := notR hn (Or.inl h)
theorem b01 {x : Bool} : bI x = 0 ∨ bI x = 1 := by cases x <;> simp [bI]
set_option maxHeartbeats 4000000 in
set_option maxRecDepth 100000 in
theorem c_X3_stick {w : Wd} {P : PT} {T : TT} {A : AT} {U : Nat → Bool} {K : Nat → PT} {N : NT} {z : Int64} (hS : cS w P T A U K N z) (hz : P.1.2.2.2 = 0 ∨ P.1.2.2.2 = 1) {i l : Int32} {Q : Option Value → Wd → Prop} (hQ : ∀ u, cS u (stickF P A i l).2.1 T (stickF P A i l).2.2 U K N z → FrC w u → Q (some (.int (stickF P A i l).1)) u) : V mX3_stick 0 [some (.ref 0), some (.int i), some (.int l)] [] w Q := by
  have b5 := hS.1.2.2.2.2.1
  have b4 := hS.1.2.2.2.2.2.1
  refine la_3_0 1 dX3_stick_0 rfl ?_
  refine vg_X3_23 rfl 4 dX3_stick_1 rfl ?_
  refine li_3_1 5 dX3_stick_4 rfl ?_
  refine v_cVI1 8 dX3_stick_5 rfl fvX1_hasStamp fiX1_hasStamp ml_X3_79 (seX1 hb0) rfl ⟨(Nat.le_of_ble_eq_true rfl), (Nat.le_of_ble_eq_true rfl)⟩ (Nat.le_of_ble_eq_true rfl) (Nat.le_of_ble_eq_true rfl) (c_X1_hasStamp hb0 hS.1 (fun q5 => ⟨_, rfl, ?_⟩) (fun q5 => ⟨_, rfl, ?_⟩)) rfl
  · refine v_if_eq 22 11 dX3_stick_8 rfl rfl (fun h => absurd h (by decide)) (fun _ => ?_)
    refine la_3_0 12 dX3_stick_11 rfl ?_
    refine vg_X3_23 rfl 15 dX3_stick_12 rfl ?_
    refine li_3_2 16 dX3_stick_15 rfl ?_
    refine v_cVI1 19 dX3_stick_16 rfl fvX1_hasLetter fiX1_hasLetter ml_X3_108 (seX1 hb0) rfl ⟨(Nat.le_of_ble_eq_true rfl), (Nat.le_of_ble_eq_true rfl)⟩ (Nat.le_of_ble_eq_true rfl) (Nat.le_of_ble_eq_true rfl) (c_X1_hasLetter hb0 hS.1 (fun q16 => ⟨_, rfl, ?_⟩) (fun q16 => ⟨_, rfl, ?_⟩)) rfl
    · refine v_if_ne 24 22 dX3_stick_19 rfl rfl (fun _ => ?_) (fun h => absurd h (by decide))
      refine la_3_0 25 dX3_stick_24 rfl ?_
      refine vg_X3_23 rfl 28 dX3_stick_25 rfl ?_
      refine li_3_1 29 dX3_stick_28 rfl ?_
      refine li_3_2 30 dX3_stick_29 rfl ?_
      refine v_cVI2 33 dX3_stick_30 rfl fvX1_canStick fiX1_canStick ml_X3_141 (seX1 hb0) rfl ⟨(Nat.le_of_ble_eq_true rfl), (Nat.le_of_ble_eq_true rfl)⟩ (Nat.le_of_ble_eq_true rfl) (Nat.le_of_ble_eq_true rfl) (c_X1_canStick hb0 hS.1 (fun q30 => ⟨_, rfl, ?_⟩) (fun q30 => ⟨_, rfl, ?_⟩)) rfl
      · obtain ⟨k, hk, rfl⟩ := q5
        obtain ⟨m, hm, rfl⟩ := q16
        refine v_if_ne 39 36 dX3_stick_33 rfl rfl (fun _ => ?_) (fun h => absurd h (by decide))
        refine la_3_0 40 dX3_stick_39 rfl ?_
        refine v_cVN0 43 dX3_stick_40 rfl fvX3_remember fiX3_remember ml_X3_126 (seX3) rfl ⟨(Nat.le_of_ble_eq_true rfl), (Nat.le_of_ble_eq_true rfl)⟩ (Nat.le_of_ble_eq_true rfl) (Nat.le_of_ble_eq_true rfl) (c_X3_remember hS hz (fun u1 hS1 G1 => ⟨rfl, ?_⟩)) rfl
        refine la_3_0 44 dX3_stick_43 rfl ?_
        refine vg_X3_23 rfl 47 dX3_stick_44 rfl ?_
        refine li_3_1 48 dX3_stick_47 rfl ?_
        refine li_3_2 49 dX3_stick_48 rfl ?_
        refine v_cVN2 52 dX3_stick_49 rfl fvX1_stickOn fiX1_stickOn ml_X3_145 (seX1 hb0) rfl ⟨(Nat.le_of_ble_eq_true rfl), (Nat.le_of_ble_eq_true rfl)⟩ (Nat.le_of_ble_eq_true rfl) (Nat.le_of_ble_eq_true rfl) (c_X1_stickOn hb0 hS1.1 hk (fun u1 hC1 hF1 => ⟨rfl, ?_⟩)) rfl
        refine la_3_0 53 dX3_stick_52 rfl ?_
        refine vg_X3_23 rfl 56 dX3_stick_53 rfl ?_
        refine li_3_2 57 dX3_stick_56 rfl ?_
        refine v_cVI1 60 dX3_stick_57 rfl fvX1_stuckBits fiX1_stuckBits ml_X3_117 (seX1 hb0) rfl ⟨(Nat.le_of_ble_eq_true rfl), (Nat.le_of_ble_eq_true rfl)⟩ (Nat.le_of_ble_eq_true rfl) (Nat.le_of_ble_eq_true rfl) (c_X1_stuckBits hb0 hC1 ⟨_, rfl, ?_⟩) rfl
        refine v_cSI1 63 dX3_stick_60 rfl fvJ6_bitCount_0f7a4 fsJ6_bitCount_0f7a4 ml_X3_136 ⟨(Nat.le_of_ble_eq_true rfl), (Nat.le_of_ble_eq_true rfl)⟩ (Nat.le_of_ble_eq_true rfl) (Nat.le_of_ble_eq_true rfl) (c_bitCount ⟨_, rfl, ?_⟩) rfl
        refine v_iret dX3_stick_63 rfl ?_
        rw [show stickF P A (nI k) (nI m) = (bcF (stuckP (stickP P k (nI m)) (nI m)), stickP P k (nI m), pushA A P) from by unfold stickF; rw [kk_nI (by omega)]; exact (ifP_neg (fun q => q ⟨⟨k, hk, rfl⟩, ⟨m, hm, rfl⟩⟩)).trans (ifP_neg (fun q => q q30))] at hQ
        exact hQ _ (hS1.fr0 hC1 hF1) (G1.tr (hF1.C hb0))
      · refine v_if_ne 39 36 dX3_stick_33 rfl rfl (fun h => absurd rfl h) (fun _ => ?_)
        refine v_bipush (v := (-3)) 38 dX3_stick_36 rfl kb_m3 ?_
        refine v_iret dX3_stick_38 rfl ?_
        rw [show stickF P A i l = (-3, P, A) from (ifP_neg (fun q => q ⟨q5, q16⟩)).trans (ifP_pos q30)] at hQ
        exact hQ _ hS FrC.rf
    · refine v_if_ne 24 22 dX3_stick_19 rfl rfl (fun h => absurd rfl h) (fun _ => ?_)
      refine v_iconst (v := (-1)) 23 dX3_stick_22 rfl ki_m1 ?_
      refine v_iret dX3_stick_23 rfl ?_
      rw [show stickF P A i l = (-1, P, A) from ifP_pos (fun q => q16 q.2)] at hQ
      exact hQ _ hS FrC.rf
  · refine v_if_eq 22 11 dX3_stick_8 rfl rfl (fun _ => ?_) (fun h => absurd rfl h)
    refine v_iconst (v := (-1)) 23 dX3_stick_22 rfl ki_m1 ?_
    refine v_iret dX3_stick_23 rfl ?_
    rw [show stickF P A i l = (-1, P, A) from ifP_pos (fun q => q5 q.1)] at hQ
    exact hQ _ hS FrC.rf
set_option maxHeartbeats 4000000 in
set_option maxRecDepth 100000 in
theorem c_X3_send {w : Wd} {P : PT} {T : TT} {A : AT} {U : Nat → Bool} {K : Nat → PT} {N : NT} {z : Int64} (hS : cS w P T A U K N z) (hz : P.1.2.2.2 = 0 ∨ P.1.2.2.2 = 1) {l : Int32} {Q : Option Value → Wd → Prop} (hQ : ∀ u, cS u (sendF P A l).2.1 T (sendF P A l).2.2 U K N z → FrC w u → Q (some (.int (sendF P A l).1)) u) : V mX3_send 0 [some (.ref 0), some (.int l)] [] w Q := by
  have b5 := hS.1.2.2.2.2.1
  have b4 := hS.1.2.2.2.2.2.1
  refine la_2_0 1 dX3_send_0 rfl ?_
  refine vg_X3_23 rfl 4 dX3_send_1 rfl ?_
  refine li_2_1 5 dX3_send_4 rfl ?_
  refine v_cVI1 8 dX3_send_5 rfl fvX1_hasLetter fiX1_hasLetter ml_X3_108 (seX1 hb0) rfl ⟨(Nat.le_of_ble_eq_true rfl), (Nat.le_of_ble_eq_true rfl)⟩ (Nat.le_of_ble_eq_true rfl) (Nat.le_of_ble_eq_true rfl) (c_X1_hasLetter hb0 hS.1 (fun q5 => ⟨_, rfl, ?_⟩) (fun q5 => ⟨_, rfl, ?_⟩)) rfl
  · refine v_if_ne 13 11 dX3_send_8 rfl rfl (fun _ => ?_) (fun h => absurd h (by decide))
    refine la_2_0 14 dX3_send_13 rfl ?_
    refine vg_X3_23 rfl 17 dX3_send_14 rfl ?_
    refine li_2_1 18 dX3_send_17 rfl ?_
    refine v_cVI1 21 dX3_send_18 rfl fvX1_canSend fiX1_canSend ml_X3_149 (seX1 hb0) rfl ⟨(Nat.le_of_ble_eq_true rfl), (Nat.le_of_ble_eq_true rfl)⟩ (Nat.le_of_ble_eq_true rfl) (Nat.le_of_ble_eq_true rfl) (c_X1_canSend hb0 hS.1 (fun q18 => ⟨_, rfl, ?_⟩) (fun q18 => ⟨_, rfl, ?_⟩)) rfl
    · obtain ⟨m, hm, rfl⟩ := q5
      refine v_if_ne 27 24 dX3_send_21 rfl rfl (fun _ => ?_) (fun h => absurd h (by decide))
      refine la_2_0 28 dX3_send_27 rfl ?_
      refine v_cVN0 31 dX3_send_28 rfl fvX3_remember fiX3_remember ml_X3_126 (seX3) rfl ⟨(Nat.le_of_ble_eq_true rfl), (Nat.le_of_ble_eq_true rfl)⟩ (Nat.le_of_ble_eq_true rfl) (Nat.le_of_ble_eq_true rfl) (c_X3_remember hS hz (fun u1 hS1 G1 => ⟨rfl, ?_⟩)) rfl
      refine la_2_0 32 dX3_send_31 rfl ?_
      refine vg_X3_23 rfl 35 dX3_send_32 rfl ?_
      refine li_2_1 36 dX3_send_35 rfl ?_
      refine v_cVN1 39 dX3_send_36 rfl fvX1_sendOff fiX1_sendOff ml_X3_152 (seX1 hb0) rfl ⟨(Nat.le_of_ble_eq_true rfl), (Nat.le_of_ble_eq_true rfl)⟩ (Nat.le_of_ble_eq_true rfl) (Nat.le_of_ble_eq_true rfl) (c_X1_sendOff hb0 hS1.1 hm (fun u1 hC1 hF1 => ⟨rfl, ?_⟩)) rfl
      refine la_2_0 40 dX3_send_39 rfl ?_
      refine vg_X3_23 rfl 43 dX3_send_40 rfl ?_
      refine vg_X3_111 hb0 rfl 46 dX3_send_43 rfl ?_
      refine li_2_1 47 dX3_send_46 rfl ?_
      refine vlq_X1_left hb0 hC1 _ 48 dX3_send_47 rfl rfl hm ?_
      refine v_iret dX3_send_48 rfl ?_
      rw [show sendF P A (nI m) = (P.2 5 m, sendP P m, pushA A P) from by unfold sendF; rw [kk_nI (by omega)]; exact (ifP_neg (fun q => q ⟨m, hm, rfl⟩)).trans (ifP_neg (fun q => q q18))] at hQ
      exact hQ _ (hS1.fr0 hC1 hF1) (G1.tr (hF1.C hb0))
    · refine v_if_ne 27 24 dX3_send_21 rfl rfl (fun h => absurd rfl h) (fun _ => ?_)
      refine v_bipush (v := (-3)) 26 dX3_send_24 rfl kb_m3 ?_
      refine v_iret dX3_send_26 rfl ?_
      rw [show sendF P A l = (-3, P, A) from (ifP_neg (fun q => q q5)).trans (ifP_pos q18)] at hQ
      exact hQ _ hS FrC.rf
  · refine v_if_ne 13 11 dX3_send_8 rfl rfl (fun h => absurd rfl h) (fun _ => ?_)
    refine v_iconst (v := (-1)) 12 dX3_send_11 rfl ki_m1 ?_
    refine v_iret dX3_send_12 rfl ?_
    rw [show sendF P A l = (-1, P, A) from ifP_pos (fun q => q5 q)] at hQ
    exact hQ _ hS FrC.rf
set_option maxHeartbeats 4000000 in
set_option maxRecDepth 100000 in
theorem c_X3_part {w : Wd} {P : PT} {T : TT} {A : AT} {U : Nat → Bool} {K : Nat → PT} {N : NT} {z : Int64} (hS : cS w P T A U K N z) (hz : P.1.2.2.2 = 0 ∨ P.1.2.2.2 = 1) {i j : Int32} {Q : Option Value → Wd → Prop} (hQ : ∀ u, cS u (partF P A i j).2.1 T (partF P A i j).2.2 U K N z → FrC w u → Q (some (.int (partF P A i j).1)) u) : V mX3_part 0 [some (.ref 0), some (.int i), some (.int j)] [] w Q := by
  have b5 := hS.1.2.2.2.2.1
  have b4 := hS.1.2.2.2.2.2.1
  refine la_3_0 1 dX3_part_0 rfl ?_
  refine vg_X3_23 rfl 4 dX3_part_1 rfl ?_
  refine li_3_1 5 dX3_part_4 rfl ?_
  refine v_cVI1 8 dX3_part_5 rfl fvX1_hasStamp fiX1_hasStamp ml_X3_79 (seX1 hb0) rfl ⟨(Nat.le_of_ble_eq_true rfl), (Nat.le_of_ble_eq_true rfl)⟩ (Nat.le_of_ble_eq_true rfl) (Nat.le_of_ble_eq_true rfl) (c_X1_hasStamp hb0 hS.1 (fun q5 => ⟨_, rfl, ?_⟩) (fun q5 => ⟨_, rfl, ?_⟩)) rfl
  · refine v_if_eq 22 11 dX3_part_8 rfl rfl (fun h => absurd h (by decide)) (fun _ => ?_)
    refine la_3_0 12 dX3_part_11 rfl ?_
    refine vg_X3_23 rfl 15 dX3_part_12 rfl ?_
    refine li_3_2 16 dX3_part_15 rfl ?_
    refine v_cVI1 19 dX3_part_16 rfl fvX1_hasStamp fiX1_hasStamp ml_X3_79 (seX1 hb0) rfl ⟨(Nat.le_of_ble_eq_true rfl), (Nat.le_of_ble_eq_true rfl)⟩ (Nat.le_of_ble_eq_true rfl) (Nat.le_of_ble_eq_true rfl) (c_X1_hasStamp hb0 hS.1 (fun q16 => ⟨_, rfl, ?_⟩) (fun q16 => ⟨_, rfl, ?_⟩)) rfl
    · refine v_if_ne 24 22 dX3_part_19 rfl rfl (fun _ => ?_) (fun h => absurd h (by decide))
      refine la_3_0 25 dX3_part_24 rfl ?_
      refine vg_X3_23 rfl 28 dX3_part_25 rfl ?_
      refine li_3_1 29 dX3_part_28 rfl ?_
      refine li_3_2 30 dX3_part_29 rfl ?_
      refine v_cVI2 33 dX3_part_30 rfl fvX1_areJoined fiX1_areJoined ml_X3_155 (seX1 hb0) rfl ⟨(Nat.le_of_ble_eq_true rfl), (Nat.le_of_ble_eq_true rfl)⟩ (Nat.le_of_ble_eq_true rfl) (Nat.le_of_ble_eq_true rfl) (c_X1_areJoined hb0 hS.1 (fun q30 => ⟨_, rfl, ?_⟩) (fun q30 => ⟨_, rfl, ?_⟩)) rfl
      · obtain ⟨k, hk, rfl⟩ := q5
        obtain ⟨m, hm, rfl⟩ := q16
        refine v_if_ne 39 36 dX3_part_33 rfl rfl (fun _ => ?_) (fun h => absurd h (by decide))
        refine la_3_0 40 dX3_part_39 rfl ?_
        refine v_cVN0 43 dX3_part_40 rfl fvX3_remember fiX3_remember ml_X3_126 (seX3) rfl ⟨(Nat.le_of_ble_eq_true rfl), (Nat.le_of_ble_eq_true rfl)⟩ (Nat.le_of_ble_eq_true rfl) (Nat.le_of_ble_eq_true rfl) (c_X3_remember hS hz (fun u1 hS1 G1 => ⟨rfl, ?_⟩)) rfl
        refine la_3_0 44 dX3_part_43 rfl ?_
        refine vg_X3_23 rfl 47 dX3_part_44 rfl ?_
        refine li_3_1 48 dX3_part_47 rfl ?_
        refine li_3_2 49 dX3_part_48 rfl ?_
        refine v_cVN2 52 dX3_part_49 rfl fvX1_partTwo fiX1_partTwo ml_X3_158 (seX1 hb0) rfl ⟨(Nat.le_of_ble_eq_true rfl), (Nat.le_of_ble_eq_true rfl)⟩ (Nat.le_of_ble_eq_true rfl) (Nat.le_of_ble_eq_true rfl) (c_X1_partTwo hb0 hS1.1 hk hm (fun u1 hC1 hF1 => ⟨rfl, ?_⟩)) rfl
        refine la_3_0 53 dX3_part_52 rfl ?_
        refine vg_X3_23 rfl 56 dX3_part_53 rfl ?_
        refine vg_X3_105 hb0 rfl 59 dX3_part_56 rfl ?_
        refine li_3_1 60 dX3_part_59 rfl ?_
        refine vlq_X1_joined hb0 hC1 _ 61 dX3_part_60 rfl rfl hk ?_
        refine v_cSI1 64 dX3_part_61 rfl fvJ6_bitCount_0f7a4 fsJ6_bitCount_0f7a4 ml_X3_136 ⟨(Nat.le_of_ble_eq_true rfl), (Nat.le_of_ble_eq_true rfl)⟩ (Nat.le_of_ble_eq_true rfl) (Nat.le_of_ble_eq_true rfl) (c_bitCount ⟨_, rfl, ?_⟩) rfl
        refine v_iret dX3_part_64 rfl ?_
        rw [show partF P A (nI k) (nI m) = (bcF ((partP P k m).2 3 k), partP P k m, pushA A P) from by unfold partF; rw [kk_nI (by omega), kk_nI (by omega)]; exact (ifP_neg (fun q => q ⟨⟨k, hk, rfl⟩, ⟨m, hm, rfl⟩⟩)).trans (ifP_neg (fun q => q q30))] at hQ
        exact hQ _ (hS1.fr0 hC1 hF1) (G1.tr (hF1.C hb0))
      · refine v_if_ne 39 36 dX3_part_33 rfl rfl (fun h => absurd rfl h) (fun _ => ?_)
        refine v_bipush (v := (-3)) 38 dX3_part_36 rfl kb_m3 ?_
        refine v_iret dX3_part_38 rfl ?_
        rw [show partF P A i j = (-3, P, A) from (ifP_neg (fun q => q ⟨q5, q16⟩)).trans (ifP_pos q30)] at hQ
        exact hQ _ hS FrC.rf
    · refine v_if_ne 24 22 dX3_part_19 rfl rfl (fun h => absurd rfl h) (fun _ => ?_)
      refine v_iconst (v := (-1)) 23 dX3_part_22 rfl ki_m1 ?_
      refine v_iret dX3_part_23 rfl ?_
      rw [show partF P A i j = (-1, P, A) from ifP_pos (fun q => q16 q.2)] at hQ
      exact hQ _ hS FrC.rf
  · refine v_if_eq 22 11 dX3_part_8 rfl rfl (fun _ => ?_) (fun h => absurd rfl h)
    refine v_iconst (v := (-1)) 23 dX3_part_22 rfl ki_m1 ?_
    refine v_iret dX3_part_23 rfl ?_
    rw [show partF P A i j = (-1, P, A) from ifP_pos (fun q => q5 q.1)] at hQ
    exact hQ _ hS FrC.rf
set_option maxHeartbeats 4000000 in
set_option maxRecDepth 100000 in
theorem c_X3_undo {w : Wd} {P : PT} {T : TT} {A : AT} {U : Nat → Bool} {K : Nat → PT} {N : NT} {z : Int64} (hS : cS w P T A U K N z) (hA : ∀ i, i < A.1 → sameK P (A.2 i) ∧ ((A.2 i).1.2.2.2 = 0 ∨ (A.2 i).1.2.2.2 = 1)) {Q : Option Value → Wd → Prop} (hQ : ∀ u, cS u (undoF P A).2.1 T (undoF P A).2.2 U K N z → FrC w u → Q (some (.int (undoF P A).1)) u) : V mX3_undo 0 [some (.ref 0)] [] w Q := by
  have b5 := hS.1.2.2.2.2.1
  have b4 := hS.1.2.2.2.2.2.1
  have h14 := hS.2.2.1.2.1
  refine la_1_0 1 dX3_undo_0 rfl ?_
  refine vg_X3_70 rfl 4 dX3_undo_1 rfl ?_
  rw [hS.2.2.1.1]
  refine v_iconst (v := 1) 5 dX3_undo_4 rfl ki_1 ?_
  refine v_icmp_ge 11 8 dX3_undo_5 rfl rfl (fun h5 => ?_) (fun h5 => ?_)
  · have hk : ¬ A.1 = 0 := fun z => by rw [z] at h5; exact absurd h5 (by decide)
    refine la_1_0 12 dX3_undo_11 rfl ?_
    refine v_dup 13 dX3_undo_12 rfl rfl ?_
    refine vg_X3_70 rfl 16 dX3_undo_13 rfl ?_
    refine v_iconst (v := 1) 17 dX3_undo_16 rfl ki_1 ?_
    refine v_isub 18 dX3_undo_17 rfl ?_
    rw [hS.2.2.1.1]
    refine vs_X3_70 rfl 21 dX3_undo_18 rfl ?_
    refine la_1_0 22 dX3_undo_21 rfl ?_
    refine vg_X3_35 rfl 25 dX3_undo_22 rfl ?_
    refine la_1_0 26 dX3_undo_25 rfl ?_
    refine vg_X3_70 rfl 29 dX3_undo_26 rfl ?_
    refine la_1_0 30 dX3_undo_29 rfl ?_
    refine vg_X3_23 rfl 33 dX3_undo_30 rfl ?_
    show V mX3_undo 33 _ [_, .int (nI A.1 - 1), _] _ _
    rw [show nI A.1 - 1 = nI (A.1 - 1) from pk_sub (b := 1) (by omega)]
    refine v_cVN2 36 dX3_undo_33 rfl fvX0_load fiX0_load ml_X3_165 (seX0 hb0) rfl ⟨(Nat.le_of_ble_eq_true rfl), (Nat.le_of_ble_eq_true rfl)⟩ (Nat.le_of_ble_eq_true rfl) (Nat.le_of_ble_eq_true rfl) (c_X0_load hb0 hb0 (hS.1.oS (by decide)) (k := A.1 - 1) (by show 30 * (A.1 - 1) + 30 ≤ 420; omega) (hS.2.2.1.2.2 (A.1 - 1) (by omega)).2.2 (hA (A.1 - 1) (by omega)).1 (hA (A.1 - 1) (by omega)).2 (fun u1 hC1 hF1 => ⟨rfl, ?_⟩)) rfl
    refine la_1_0 37 dX3_undo_36 rfl ?_
    refine vg_X3_70 rfl 40 dX3_undo_37 rfl ?_
    refine v_iret dX3_undo_40 rfl ?_
    rw [show undoF P A = (nI (A.1 - 1), A.2 (A.1 - 1), (A.1 - 1, A.2)) from if_neg hk] at hQ
    have e1 : u1.1 1 = nI (A.1 - 1) := (hF1.1 1 (by decide)).trans rfl
    rw [e1]
    refine hQ _ ⟨hC1, ?_⟩ ((FrC.oI (by decide)).tr (hF1.C hb0))
    have g : cR (sI w 1 (nI (A.1 - 1))) T (A.1 - 1, A.2) U K N z := ⟨hS.2.1, ⟨rfl, by show A.1 - 1 ≤ 14; omega, fun i hi => hS.2.2.1.2.2 i (by have hi' : i < A.1 - 1 := hi; omega)⟩, hS.2.2.2.1, hS.2.2.2.2.1, hS.2.2.2.2.2.1, hS.2.2.2.2.2.2⟩
    exact g.fr hb0 hF1
  · have hk : A.1 = 0 := by have := ge_lt (n := 1) h5 (by omega) (by omega); omega
    refine v_bipush (v := (-3)) 10 dX3_undo_8 rfl kb_m3 ?_
    refine v_iret dX3_undo_10 rfl ?_
    rw [show undoF P A = (-3, P, A) from if_pos hk] at hQ
    exact hQ _ hS FrC.rf
set_option maxHeartbeats 4000000 in
set_option maxRecDepth 100000 in
theorem c_X3_see {w : Wd} {P : PT} {T : TT} {A : AT} {U : Nat → Bool} {K : Nat → PT} {N : NT} {z : Int64} (hS : cS w P T A U K N z) {i k a : Int32} {Q : Option Value → Wd → Prop} (hQ : ∀ u, cS u P T A U K (seeF P.1.1 N i k a).2 z → FrC w u → Q (some (.int (seeF P.1.1 N i k a).1)) u) : V mX3_see 0 [some (.ref 0), some (.int i), some (.int k), some (.int a)] [] w Q := by
  have b5 := hS.1.2.2.2.2.1
  have b4 := hS.1.2.2.2.2.2.1
  have b6 := hS.2.2.2.2.2.1.2.1
  refine la_4_0 1 dX3_see_0 rfl ?_
  refine vg_X3_23 rfl 4 dX3_see_1 rfl ?_
  refine li_4_1 5 dX3_see_4 rfl ?_
  refine v_cVI1 8 dX3_see_5 rfl fvX1_hasStamp fiX1_hasStamp ml_X3_79 (seX1 hb0) rfl ⟨(Nat.le_of_ble_eq_true rfl), (Nat.le_of_ble_eq_true rfl)⟩ (Nat.le_of_ble_eq_true rfl) (Nat.le_of_ble_eq_true rfl) (c_X1_hasStamp hb0 hS.1 (fun q5 => ⟨_, rfl, ?_⟩) (fun q5 => ⟨_, rfl, ?_⟩)) rfl
  · refine v_if_ne 13 11 dX3_see_8 rfl rfl (fun _ => ?_) (fun h => absurd h (by decide))
    refine li_4_2 14 dX3_see_13 rfl ?_
    refine v_if_lt 32 17 dX3_see_14 rfl rfl (fun h14 => ?_) (fun h14 => ?_)
    · refine v_bipush (v := (-2)) 34 dX3_see_32 rfl kb_m2 ?_
      refine v_iret dX3_see_34 rfl ?_
      rw [show seeF P.1.1 N i k a = (-2, N) from (ifP_neg (fun q => q q5)).trans (ifP_pos (fun q => nQ_0 (by decide) h14 q.1))] at hQ
      exact hQ _ hS FrC.rf
    · refine li_4_2 18 dX3_see_17 rfl ?_
      refine v_bipush (v := 99) 20 dX3_see_18 rfl kb_99 ?_
      refine v_icmp_gt 32 23 dX3_see_20 rfl rfl (fun h20 => ?_) (fun h20 => ?_)
      · refine v_bipush (v := (-2)) 34 dX3_see_32 rfl kb_m2 ?_
        refine v_iret dX3_see_34 rfl ?_
        rw [show seeF P.1.1 N i k a = (-2, N) from (ifP_neg (fun q => q q5)).trans (ifP_pos (fun q => nQ_99 h20 q.1))] at hQ
        exact hQ _ hS FrC.rf
      · refine li_4_3 24 dX3_see_23 rfl ?_
        refine v_if_lt 32 27 dX3_see_24 rfl rfl (fun h24 => ?_) (fun h24 => ?_)
        · refine v_bipush (v := (-2)) 34 dX3_see_32 rfl kb_m2 ?_
          refine v_iret dX3_see_34 rfl ?_
          rw [show seeF P.1.1 N i k a = (-2, N) from (ifP_neg (fun q => q q5)).trans (ifP_pos (fun q => nQ_0 (by decide) h24 q.2))] at hQ
          exact hQ _ hS FrC.rf
        · refine li_4_3 28 dX3_see_27 rfl ?_
          refine v_iconst (v := 1) 29 dX3_see_28 rfl ki_1 ?_
          refine v_icmp_le 35 32 dX3_see_29 rfl rfl (fun h29 => ?_) (fun h29 => ?_)
          · refine la_4_0 36 dX3_see_35 rfl ?_
            refine vg_X3_187 rfl 39 dX3_see_36 rfl ?_
            rw [hS.2.2.2.2.2.1.1]
            refine v_bipush (v := 6) 41 dX3_see_39 rfl kb_6 ?_
            refine v_icmp_lt 47 44 dX3_see_41 rfl rfl (fun h41 => ?_) (fun h41 => ?_)
            · have g : N.1 < 6 := (nI_ltI (b := 6) (by omega) (by omega)).mp h41
              refine la_4_0 48 dX3_see_47 rfl ?_
              refine vg_X3_46 rfl 51 dX3_see_48 rfl ?_
              refine la_4_0 52 dX3_see_51 rfl ?_
              refine vg_X3_187 rfl 55 dX3_see_52 rfl ?_
              refine li_4_1 56 dX3_see_55 rfl ?_
              refine vw_X3_seenStamp N.1 57 dX3_see_56 rfl hS.2.2.2.2.2.1.1 g ?_
              refine la_4_0 58 dX3_see_57 rfl ?_
              refine vg_X3_49 rfl 61 dX3_see_58 rfl ?_
              refine la_4_0 62 dX3_see_61 rfl ?_
              refine vg_X3_187 rfl 65 dX3_see_62 rfl ?_
              refine li_4_2 66 dX3_see_65 rfl ?_
              refine vw_X3_seenWeeks N.1 67 dX3_see_66 rfl hS.2.2.2.2.2.1.1 g ?_
              refine la_4_0 68 dX3_see_67 rfl ?_
              refine vg_X3_52 rfl 71 dX3_see_68 rfl ?_
              refine la_4_0 72 dX3_see_71 rfl ?_
              refine vg_X3_187 rfl 75 dX3_see_72 rfl ?_
              refine li_4_3 76 dX3_see_75 rfl ?_
              refine v_iconst (v := 1) 77 dX3_see_76 rfl ki_1 ?_
              refine v_icmp_ne 84 80 dX3_see_77 rfl rfl (fun h77 => ?_) (fun h77 => ?_)
              · refine v_iconst (v := 0) 85 dX3_see_84 rfl ki_0 ?_
                refine vw_X3_seenAlive N.1 86 dX3_see_85 rfl hS.2.2.2.2.2.1.1 g (Or.inl rfl) ?_
                refine la_4_0 87 dX3_see_86 rfl ?_
                refine v_dup 88 dX3_see_87 rfl rfl ?_
                refine vg_X3_187 rfl 91 dX3_see_88 rfl ?_
                refine v_iconst (v := 1) 92 dX3_see_91 rfl ki_1 ?_
                refine v_iadd 93 dX3_see_92 rfl ?_
                refine vs_X3_187 rfl 96 dX3_see_93 rfl ?_
                refine la_4_0 97 dX3_see_96 rfl ?_
                refine vg_X3_187 rfl 100 dX3_see_97 rfl ?_
                refine v_iret dX3_see_100 rfl ?_
                rw [show seeF P.1.1 N i k a = _ from (ifP_neg (fun q => q q5)).trans ((ifP_neg (fun q => q ⟨inQ_99 h14 h20, inQ_1 h24 h29⟩)).trans (ifP_neg (by omega)))] at hQ
                have e : (w.1 2 + 1 : Int32) = nI (N.1 + 1) := by rw [hS.2.2.2.2.2.1.1]; exact nI_1 _
                show Q (some (.int (w.1 2 + 1))) _
                rw [e]
                obtain ⟨k1, hk1, rfl⟩ := q5
                obtain ⟨k2, hk2, rfl⟩ := inQ_99 h14 h20
                refine hQ _ ⟨(((hS.1.oT hb0 (by decide)).oT hb0 (by decide)).oT hb0 (by decide)).oS (by decide), hS.2.1, hS.2.2.1, hS.2.2.2.1, hS.2.2.2.2.1, ⟨e, by show N.1 + 1 ≤ 6; omega, fun i hi => ?_⟩, hS.2.2.2.2.2.2⟩ ((((FrC.oA (by decide)).tr (FrC.oA (by decide))).tr (FrC.oA (by decide))).tr (FrC.oI (by decide)))
                have hi' : i < N.1 + 1 := hi
                show upd (w.2.2 27) N.1 (nI k1) i = nI (if i = N.1 then kk (nI k1) else N.2.1 i) ∧ upd (w.2.2 28) N.1 (nI k2) i = nI (if i = N.1 then kk (nI k2) else N.2.2.1 i) ∧ upd (w.2.2 29) N.1 0 i = bI (if i = N.1 then decide (a = 1) else N.2.2.2 i)
                simp only [upd, kk_nI (show k1 < 2 ^ 31 by omega), kk_nI (show k2 < 2 ^ 31 by omega)]
                by_cases q : i = N.1
                · simp only [if_pos q]; exact ⟨trivial, trivial, by simp [bI, h77]⟩
                · simp only [if_neg q]; exact hS.2.2.2.2.2.1.2.2 i (by omega)
              · refine v_iconst (v := 1) 81 dX3_see_80 rfl ki_1 ?_
                refine v_goto 85 dX3_see_81 rfl ?_
                refine vw_X3_seenAlive N.1 86 dX3_see_85 rfl hS.2.2.2.2.2.1.1 g (Or.inr rfl) ?_
                refine la_4_0 87 dX3_see_86 rfl ?_
                refine v_dup 88 dX3_see_87 rfl rfl ?_
                refine vg_X3_187 rfl 91 dX3_see_88 rfl ?_
                refine v_iconst (v := 1) 92 dX3_see_91 rfl ki_1 ?_
                refine v_iadd 93 dX3_see_92 rfl ?_
                refine vs_X3_187 rfl 96 dX3_see_93 rfl ?_
                refine la_4_0 97 dX3_see_96 rfl ?_
                refine vg_X3_187 rfl 100 dX3_see_97 rfl ?_
                refine v_iret dX3_see_100 rfl ?_
                rw [show seeF P.1.1 N i k a = _ from (ifP_neg (fun q => q q5)).trans ((ifP_neg (fun q => q ⟨inQ_99 h14 h20, inQ_1 h24 h29⟩)).trans (ifP_neg (by omega)))] at hQ
                have e : (w.1 2 + 1 : Int32) = nI (N.1 + 1) := by rw [hS.2.2.2.2.2.1.1]; exact nI_1 _
                show Q (some (.int (w.1 2 + 1))) _
                rw [e]
                obtain ⟨k1, hk1, rfl⟩ := q5
                obtain ⟨k2, hk2, rfl⟩ := inQ_99 h14 h20
                refine hQ _ ⟨(((hS.1.oT hb0 (by decide)).oT hb0 (by decide)).oT hb0 (by decide)).oS (by decide), hS.2.1, hS.2.2.1, hS.2.2.2.1, hS.2.2.2.2.1, ⟨e, by show N.1 + 1 ≤ 6; omega, fun i hi => ?_⟩, hS.2.2.2.2.2.2⟩ ((((FrC.oA (by decide)).tr (FrC.oA (by decide))).tr (FrC.oA (by decide))).tr (FrC.oI (by decide)))
                have hi' : i < N.1 + 1 := hi
                show upd (w.2.2 27) N.1 (nI k1) i = nI (if i = N.1 then kk (nI k1) else N.2.1 i) ∧ upd (w.2.2 28) N.1 (nI k2) i = nI (if i = N.1 then kk (nI k2) else N.2.2.1 i) ∧ upd (w.2.2 29) N.1 1 i = bI (if i = N.1 then decide (a = 1) else N.2.2.2 i)
                simp only [upd, kk_nI (show k1 < 2 ^ 31 by omega), kk_nI (show k2 < 2 ^ 31 by omega)]
                by_cases q : i = N.1
                · simp only [if_pos q]; exact ⟨trivial, trivial, by simp [bI, h77]⟩
                · simp only [if_neg q]; exact hS.2.2.2.2.2.1.2.2 i (by omega)
            · have g2 : ¬ N.1 < 6 := fun z => h41 ((nI_ltI (b := 6) (by omega) (by omega)).mpr z)
              have g : N.1 = 6 := by omega
              refine v_bipush (v := (-4)) 46 dX3_see_44 rfl kb_m4 ?_
              refine v_iret dX3_see_46 rfl ?_
              rw [show seeF P.1.1 N i k a = (-4, N) from (ifP_neg (fun q => q q5)).trans ((ifP_neg (fun q => q ⟨inQ_99 h14 h20, inQ_1 h24 h29⟩)).trans (ifP_pos g))] at hQ
              exact hQ _ hS FrC.rf
          · refine v_bipush (v := (-2)) 34 dX3_see_32 rfl kb_m2 ?_
            refine v_iret dX3_see_34 rfl ?_
            rw [show seeF P.1.1 N i k a = (-2, N) from (ifP_neg (fun q => q q5)).trans (ifP_pos (fun q => nQ_1 h29 q.2))] at hQ
            exact hQ _ hS FrC.rf
  · refine v_if_ne 13 11 dX3_see_8 rfl rfl (fun h => absurd rfl h) (fun _ => ?_)
    refine v_iconst (v := (-1)) 12 dX3_see_11 rfl ki_m1 ?_
    refine v_iret dX3_see_12 rfl ?_
    rw [show seeF P.1.1 N i k a = (-1, N) from ifP_pos q5] at hQ
    exact hQ _ hS FrC.rf
set_option maxHeartbeats 4000000 in
set_option maxRecDepth 100000 in
theorem c_X3_keep {w : Wd} {P : PT} {T : TT} {A : AT} {U : Nat → Bool} {K : Nat → PT} {N : NT} {z : Int64} (hS : cS w P T A U K N z) (hz : P.1.2.2.2 = 0 ∨ P.1.2.2.2 = 1) {i : Int32} {Q : Option Value → Wd → Prop} (hQ : ∀ u, cS u P T A (keepF P U K i).2.1 (keepF P U K i).2.2 N z → FrC w u → Q (some (.int (keepF P U K i).1)) u) : V mX3_keep 0 [some (.ref 0), some (.int i)] [] w Q := by
  have b5 := hS.1.2.2.2.2.1
  have b4 := hS.1.2.2.2.2.2.1
  refine li_2_1 1 dX3_keep_0 rfl ?_
  refine v_if_lt 9 4 dX3_keep_1 rfl rfl (fun h1 => ?_) (fun h1 => ?_)
  · refine v_iconst (v := (-1)) 10 dX3_keep_9 rfl ki_m1 ?_
    refine v_iret dX3_keep_10 rfl ?_
    first
      | exact (by rw [show keepF P U K i = (-1, U, K) from ifP_pos (nQ_0 (by decide) h1)] at hQ; exact hQ _ hS FrC.rf)
      | exact (by rw [show keepF P U K i = (-1, U, K) from ifP_pos (notR (by decide) (Or.inr (i_nlt.mp h6)))] at hQ; exact hQ _ hS FrC.rf)
  · refine li_2_1 5 dX3_keep_4 rfl ?_
    refine v_iconst (v := 2) 6 dX3_keep_5 rfl ki_2 ?_
    refine v_icmp_lt 11 9 dX3_keep_6 rfl rfl (fun h6 => ?_) (fun h6 => ?_)
    · obtain ⟨k, hk, rfl⟩ : inQ i 2 := inR (by decide) h1 (i_nle.mpr h6)
      refine la_2_0 12 dX3_keep_11 rfl ?_
      refine vg_X3_39 rfl 15 dX3_keep_12 rfl ?_
      refine li_2_1 16 dX3_keep_15 rfl ?_
      refine la_2_0 17 dX3_keep_16 rfl ?_
      refine vg_X3_23 rfl 20 dX3_keep_17 rfl ?_
      refine v_cVN2 23 dX3_keep_20 rfl fvX0_store fiX0_store ml_X3_231 (seX0 hb1) rfl ⟨(Nat.le_of_ble_eq_true rfl), (Nat.le_of_ble_eq_true rfl)⟩ (Nat.le_of_ble_eq_true rfl) (Nat.le_of_ble_eq_true rfl) (c_X0_store hb1 hb0 hS.1 hz (k := k) (by show 30 * k + 30 ≤ 60; omega) (fun u1 r1 e1 F1 => ⟨rfl, ?_⟩)) rfl
      refine la_2_0 24 dX3_keep_23 rfl ?_
      refine vg_X3_42 rfl 27 dX3_keep_24 rfl ?_
      refine li_2_1 28 dX3_keep_27 rfl ?_
      refine v_iconst (v := 1) 29 dX3_keep_28 rfl ki_1 ?_
      refine vw_X3_slotUsed _ 30 dX3_keep_29 rfl rfl hk (Or.inr rfl) ?_
      refine la_2_0 31 dX3_keep_30 rfl ?_
      refine vg_X3_23 rfl 34 dX3_keep_31 rfl ?_
      show V mX3_keep 34 _ [.ref (pr 0)] (sA u1 26 (upd (u1.2.2 26) k 1)) _
      refine vgq_X3_234 hb0 ((hS.1.fA hb0 (by decide) F1).oT hb0 (by decide)) rfl 37 dX3_keep_34 rfl ?_
      refine v_iret dX3_keep_37 rfl ?_
      rw [show keepF P U K (nI k) = (P.1.2.2.1, fun j => if j = k then true else U j, fun j => if j = k then P else K j) from by unfold keepF; rw [kk_nI (by omega)]; exact ifP_neg (fun q => q ⟨k, hk, rfl⟩)] at hQ
      refine hQ _ ⟨(hS.1.fA hb0 (by decide) F1).oT hb0 (by decide), ?_⟩ ((F1.C (by decide)).tr (FrC.oA (by decide)))
      obtain ⟨a, b, c, d, e, f⟩ := hS.2
      refine ⟨⟨by show u1.1 0 = _; rw [F1.1]; exact a.1, a.2.1, ?_⟩, ⟨by show u1.1 1 = _; rw [F1.1]; exact b.1, b.2.1, ?_⟩, fun j hj => ?_, fun j hj hu => ?_, ⟨by show u1.1 2 = _; rw [F1.1]; exact e.1, e.2.1, ?_⟩, by show u1.2.1 0 = _; rw [F1.2.1]; exact f⟩
      · show ∀ i, i < T.1 → u1.2.2 25 i = _; rw [F1.2.2 25 (by decide)]; exact a.2.2
      · show ∀ i, i < A.1 → rowB (u1.2.2 (mc 0)) (30 * i) (A.2 i); rw [F1.2.2 (mc 0) (by decide)]; exact b.2.2
      · show upd (u1.2.2 26) k 1 j = bI (if j = k then true else U j)
        simp only [upd]
        by_cases q : j = k
        · simp [q, bI]
        · rw [if_neg q, if_neg q, F1.2.2 26 (by decide)]; exact c j hj
      · show rowB (u1.2.2 (mc 1)) (30 * j) (if j = k then P else K j)
        by_cases q : j = k
        · rw [if_pos q, q]; exact ⟨b5, b4, r1⟩
        · rw [if_neg q]
          have hu' : (if j = k then true else U j) = true := hu
          rw [if_neg q] at hu'
          exact (d j hj hu').shift (fun x hx => e1 _ (by omega))
      · show ∀ i, i < N.1 → u1.2.2 27 i = _ ∧ u1.2.2 28 i = _ ∧ u1.2.2 29 i = _; rw [F1.2.2 27 (by decide), F1.2.2 28 (by decide), F1.2.2 29 (by decide)]; exact e.2.2
    · refine v_iconst (v := (-1)) 10 dX3_keep_9 rfl ki_m1 ?_
      refine v_iret dX3_keep_10 rfl ?_
      first
        | exact (by rw [show keepF P U K i = (-1, U, K) from ifP_pos (nQ_0 (by decide) h1)] at hQ; exact hQ _ hS FrC.rf)
        | exact (by rw [show keepF P U K i = (-1, U, K) from ifP_pos (notR (by decide) (Or.inr (i_nlt.mp h6)))] at hQ; exact hQ _ hS FrC.rf)
set_option maxHeartbeats 4000000 in
set_option maxRecDepth 100000 in
theorem c_X3_again {w : Wd} {P : PT} {T : TT} {A : AT} {U : Nat → Bool} {K : Nat → PT} {N : NT} {z : Int64} (hS : cS w P T A U K N z) (hU : ∀ i, i < 2 → U i = true → sameK P (K i) ∧ ((K i).1.2.2.2 = 0 ∨ (K i).1.2.2.2 = 1)) {i : Int32} {Q : Option Value → Wd → Prop} (hQ : ∀ u, cS u (againF P A U K i).2.1 T (againF P A U K i).2.2 U K N z → FrC w u → Q (some (.int (againF P A U K i).1)) u) : V mX3_again 0 [some (.ref 0), some (.int i)] [] w Q := by
  have b5 := hS.1.2.2.2.2.1
  have b4 := hS.1.2.2.2.2.2.1
  refine li_2_1 1 dX3_again_0 rfl ?_
  refine v_if_lt 9 4 dX3_again_1 rfl rfl (fun h1 => ?_) (fun h1 => ?_)
  · refine v_iconst (v := (-1)) 10 dX3_again_9 rfl ki_m1 ?_
    refine v_iret dX3_again_10 rfl ?_
    first
      | exact (by rw [show againF P A U K i = (-1, P, A) from ifP_pos (nQ_0 (by decide) h1)] at hQ; exact hQ _ hS FrC.rf)
      | exact (by rw [show againF P A U K i = (-1, P, A) from ifP_pos (notR (by decide) (Or.inr (i_nlt.mp h6)))] at hQ; exact hQ _ hS FrC.rf)
  · refine li_2_1 5 dX3_again_4 rfl ?_
    refine v_iconst (v := 2) 6 dX3_again_5 rfl ki_2 ?_
    refine v_icmp_lt 11 9 dX3_again_6 rfl rfl (fun h6 => ?_) (fun h6 => ?_)
    · obtain ⟨k, hk, rfl⟩ : inQ i 2 := inR (by decide) h1 (i_nle.mpr h6)
      have hu := hS.2.2.2.1 k hk
      refine la_2_0 12 dX3_again_11 rfl ?_
      refine vg_X3_42 rfl 15 dX3_again_12 rfl ?_
      refine li_2_1 16 dX3_again_15 rfl ?_
      refine vl_X3_slotUsed _ 17 dX3_again_16 rfl rfl hk ?_
      refine v_if_ne 23 20 dX3_again_17 rfl rfl (fun h17 => ?_) (fun h17 => ?_)
      · have g : U k = true := by rw [hu] at h17; cases q : U k <;> simp [q, bI] at h17 ⊢
        refine la_2_0 24 dX3_again_23 rfl ?_
        refine vg_X3_39 rfl 27 dX3_again_24 rfl ?_
        refine li_2_1 28 dX3_again_27 rfl ?_
        refine la_2_0 29 dX3_again_28 rfl ?_
        refine vg_X3_23 rfl 32 dX3_again_29 rfl ?_
        refine v_cVN2 35 dX3_again_32 rfl fvX0_load fiX0_load ml_X3_165 (seX0 hb1) rfl ⟨(Nat.le_of_ble_eq_true rfl), (Nat.le_of_ble_eq_true rfl)⟩ (Nat.le_of_ble_eq_true rfl) (Nat.le_of_ble_eq_true rfl) (c_X0_load hb1 hb0 hS.1 (k := k) (by show 30 * k + 30 ≤ 60; omega) (hS.2.2.2.2.1 k hk g).2.2 (hU k hk g).1 (hU k hk g).2 (fun u1 hC1 hF1 => ⟨rfl, ?_⟩)) rfl
        refine la_2_0 36 dX3_again_35 rfl ?_
        refine v_iconst (v := 0) 37 dX3_again_36 rfl ki_0 ?_
        refine vs_X3_70 rfl 40 dX3_again_37 rfl ?_
        refine la_2_0 41 dX3_again_40 rfl ?_
        refine vg_X3_23 rfl 44 dX3_again_41 rfl ?_
        refine vgq_X3_234 hb0 (hC1.oS (by decide)) rfl 47 dX3_again_44 rfl ?_
        refine v_iret dX3_again_47 rfl ?_
        rw [show againF P A U K (nI k) = ((K k).1.2.2.1, K k, (0, A.2)) from by unfold againF; rw [kk_nI (by omega)]; exact (ifP_neg (fun q => q ⟨k, hk, rfl⟩)).trans (ifP_neg (by rw [g]; decide))] at hQ
        have g2 := hS.2.fr hb0 hF1
        exact hQ _ ⟨hC1.oS (by decide), g2.1, ⟨rfl, Nat.zero_le _, fun i hi => absurd hi (Nat.not_lt_zero i)⟩, g2.2.2.1, g2.2.2.2.1, g2.2.2.2.2.1, g2.2.2.2.2.2⟩ ((hF1.C hb0).tr (FrC.oI (by decide)))
      · have g : U k = false := by rw [hu] at h17; cases q : U k <;> simp [q, bI] at h17 ⊢
        refine v_bipush (v := (-3)) 22 dX3_again_20 rfl kb_m3 ?_
        refine v_iret dX3_again_22 rfl ?_
        rw [show againF P A U K (nI k) = (-3, P, A) from by unfold againF; rw [kk_nI (by omega)]; exact (ifP_neg (fun q => q ⟨k, hk, rfl⟩)).trans (ifP_pos g)] at hQ
        exact hQ _ hS FrC.rf
    · refine v_iconst (v := (-1)) 10 dX3_again_9 rfl ki_m1 ?_
      refine v_iret dX3_again_10 rfl ?_
      first
        | exact (by rw [show againF P A U K i = (-1, P, A) from ifP_pos (nQ_0 (by decide) h1)] at hQ; exact hQ _ hS FrC.rf)
        | exact (by rw [show againF P A U K i = (-1, P, A) from ifP_pos (notR (by decide) (Or.inr (i_nlt.mp h6)))] at hQ; exact hQ _ hS FrC.rf)

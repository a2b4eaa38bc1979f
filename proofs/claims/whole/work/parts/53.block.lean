def gP (P : PT) (x : Int32) : Nat → Int32
  | 0 => x
  | i + 1 => gP P x i ||| (if bit (gP P x i) i then P.2 3 i else 0)
def gR (P : PT) (x : Int32) : Nat → Int32
  | 0 => x
  | r + 1 => gP P (gR P x r) P.1.1
def jN (J : Nat → Nat) (x : Nat) : Nat → Nat
  | 0 => 0
  | i + 1 => if x.testBit i then jN J x i ||| J i else jN J x i
def bN (J : Nat → Nat) (n x : Nat) : Nat → Nat
  | 0 => x
  | i + 1 => bN J n x i ||| jN J (bN J n x i) n
def gI (J : Nat → Nat) (x : Nat) : Nat → Nat
  | 0 => x
  | i + 1 => gI J x i ||| (if (gI J x i).testBit i then J i else 0)
def gN (J : Nat → Nat) (n x : Nat) : Nat → Nat
  | 0 => x
  | r + 1 => gI J (gN J n x r) n
def sb (x y : Nat) : Prop := ∀ t, x.testBit t = true → y.testBit t = true
theorem sb.tr {x y z : Nat} (h1 : sb x y) (h2 : sb y z) : sb x z := fun t q => h2 t (h1 t q)
theorem sb.eq {x y : Nat} (h1 : sb x y) (h2 : sb y x) : x = y := Nat.eq_of_testBit_eq (fun t => by
  cases a : x.testBit t <;> cases b : y.testBit t
  · rfl
  · rw [h2 t b] at a; cases a
  · rw [h1 t a] at b; cases b
  · rfl)
theorem sb_l (x y : Nat) : sb x (x ||| y) := fun t q => by rw [Nat.testBit_or, q, Bool.true_or]
theorem sb_r (x y : Nat) : sb y (x ||| y) := fun t q => by rw [Nat.testBit_or, q, Bool.or_true]
theorem sb_or {x y z : Nat} (h1 : sb x z) (h2 : sb y z) : sb (x ||| y) z := fun t q => by
  rw [Nat.testBit_or, Bool.or_eq_true] at q
  exact q.elim (h1 t) (h2 t)
theorem sb_0 (z : Nat) : sb 0 z := fun t q => by simp at q
def clQ (J : Nat → Nat) (n c : Nat) : Prop := ∀ s, s < n → c.testBit s = true → sb (J s) c
theorem jN_in {J : Nat → Nat} {x : Nat} : ∀ {n s : Nat}, s < n → x.testBit s = true → sb (J s) (jN J x n)
  | n + 1, s, hs, hx => by
    rw [jN]
    by_cases e : s = n
    · subst e; rw [if_pos hx]; exact sb_r _ _
    · have ih := jN_in (J := J) (x := x) (n := n) (show s < n by omega) hx
      split
      · exact ih.tr (sb_l _ _)
      · exact ih
theorem jN_sub {J : Nat → Nat} {x z : Nat} : ∀ {n : Nat}, (∀ s, s < n → x.testBit s = true → sb (J s) z) → sb (jN J x n) z
  | 0, _ => sb_0 z
  | n + 1, h => by
    rw [jN]
    have ih := jN_sub (J := J) (x := x) (z := z) (n := n) (fun s hs => h s (by omega))
    split
    · rename_i q; exact sb_or ih (h n (by omega) q)
    · exact ih
theorem gI_up {J : Nat → Nat} {x : Nat} : ∀ i, sb x (gI J x i)
  | 0 => fun _ q => q
  | i + 1 => (gI_up i).tr (sb_l _ _)
theorem gI_in {J : Nat → Nat} {x : Nat} : ∀ {i s : Nat}, s < i → x.testBit s = true → sb (J s) (gI J x i)
  | i + 1, s, hs, hx => by
    rw [gI]
    by_cases e : s = i
    · subst e; rw [if_pos (gI_up s s hx)]; exact sb_r _ _
    · exact (gI_in (show s < i by omega) hx).tr (sb_l _ _)
theorem gI_sub {J : Nat → Nat} {x c n : Nat} (hc : clQ J n c) (hx : sb x c) : ∀ {i : Nat}, i ≤ n → sb (gI J x i) c
  | 0, _ => hx
  | i + 1, h => by
    rw [gI]
    have ih := gI_sub hc hx (i := i) (by omega)
    refine sb_or ih ?_
    split
    · rename_i q; exact hc i (by omega) (ih i q)
    · exact sb_0 _
theorem bN_g {J : Nat → Nat} {n x : Nat} : ∀ k, sb (bN J n x k) (gN J n x k)
  | 0 => fun _ q => q
  | k + 1 => by
    have ih := bN_g (J := J) (n := n) (x := x) k
    exact sb_or (ih.tr (gI_up n)) (jN_sub (fun s hs q => gI_in hs (ih s q)))
theorem gN_up {J : Nat → Nat} {n x : Nat} (k : Nat) : ∀ d, sb (gN J n x k) (gN J n x (k + d))
  | 0 => fun _ q => q
  | d + 1 => (gN_up k d).tr (gI_up n)
theorem gN_sub {J : Nat → Nat} {n x c : Nat} (hc : clQ J n c) (hx : sb x c) : ∀ k, sb (gN J n x k) c
  | 0 => hx
  | k + 1 => gI_sub hc (gN_sub hc hx k) (Nat.le_refl _)
theorem bN_up {J : Nat → Nat} {n x : Nat} : ∀ k, sb x (bN J n x k)
  | 0 => fun _ q => q
  | k + 1 => (bN_up k).tr (sb_l _ _)
theorem jN_lt {J : Nat → Nat} {n x : Nat} (hJ : ∀ s, s < n → J s < 2 ^ n) : ∀ {i : Nat}, i ≤ n → jN J x i < 2 ^ n
  | 0, _ => Nat.pow_pos (by decide)
  | i + 1, h => by
    rw [jN]
    have ih := jN_lt (x := x) hJ (i := i) (by omega)
    split
    · exact Nat.or_lt_two_pow ih (hJ i (by omega))
    · exact ih
theorem bN_lt {J : Nat → Nat} {n x : Nat} (hJ : ∀ s, s < n → J s < 2 ^ n) (hx : x < 2 ^ n) : ∀ k, bN J n x k < 2 ^ n
  | 0 => hx
  | k + 1 => Nat.or_lt_two_pow (bN_lt hJ hx k) (jN_lt hJ (Nat.le_refl _))
theorem gI_lt {J : Nat → Nat} {n x : Nat} (hJ : ∀ s, s < n → J s < 2 ^ n) (hx : x < 2 ^ n) : ∀ {i : Nat}, i ≤ n → gI J x i < 2 ^ n
  | 0, _ => hx
  | i + 1, h => by
    rw [gI]
    refine Nat.or_lt_two_pow (gI_lt hJ hx (by omega)) ?_
    split
    · exact hJ i (by omega)
    · exact Nat.pow_pos (by decide)
theorem gN_lt {J : Nat → Nat} {n x : Nat} (hJ : ∀ s, s < n → J s < 2 ^ n) (hx : x < 2 ^ n) : ∀ k, gN J n x k < 2 ^ n
  | 0 => hx
  | k + 1 => gI_lt hJ (gN_lt hJ hx k) (Nat.le_refl _)
theorem pc_up : ∀ x, x < 32 → ∀ y, y < 32 → (x ||| y = y ∧ ¬ x = y) → pcN x < pcN y := by decide +kernel
theorem pc_1 : ∀ s, s < 5 → pcN (2 ^ s) = 1 := by decide +kernel
theorem bN_cl {J : Nat → Nat} {n s : Nat} (hn : n ≤ 5) (hs : s < n) (hJ : ∀ s, s < n → J s < 2 ^ n) : clQ J n (bN J n (2 ^ s) n) := by
  have hp := (p2_b n (by omega)).1
  have hx : 2 ^ s < 2 ^ n := Nat.pow_lt_pow_right (by decide) hs
  have key : ∀ k, clQ J n (bN J n (2 ^ s) k) ∨ k + 1 ≤ pcN (bN J n (2 ^ s) k) := by
    intro k
    induction k with
    | zero => right; show 1 ≤ pcN (2 ^ s); rw [pc_1 s (by omega)]; exact Nat.le_refl _
    | succ k ih =>
      have l1 := bN_lt hJ hx k
      have l2 := bN_lt hJ hx (k + 1)
      by_cases e : bN J n (2 ^ s) k = bN J n (2 ^ s) (k + 1)
      · left
        rw [← e]
        intro t ht q
        have h1 := jN_in (J := J) ht q
        have h2 : sb (jN J (bN J n (2 ^ s) k) n) (bN J n (2 ^ s) (k + 1)) := sb_r _ _
        rw [← e] at h2
        exact h1.tr h2
      · rcases ih with ih | ih
        · exfalso
          apply e
          exact sb.eq (sb_l _ _) (sb_or (fun _ q => q) (jN_sub (fun t ht q => ih t ht q)))
        · right
          have := pc_up _ (show bN J n (2 ^ s) k < 32 by omega) _ (show bN J n (2 ^ s) (k + 1) < 32 by omega) ⟨sb.eq (sb_or (sb_l _ _) (fun _ q => q)) (sb_r _ _), e⟩
          omega
  rcases key n with h | h
  · exact h
  · have l1 := bN_lt hJ hx n
    have := pc_n n (by omega) _ (show bN J n (2 ^ s) n < 32 by omega) l1
    omega
theorem bN_eq {J : Nat → Nat} {n s : Nat} (hn : n ≤ 5) (hs : s < n) (hJ : ∀ s, s < n → J s < 2 ^ n) : bN J n (2 ^ s) n = gN J n (2 ^ s) 5 := by
  have hc := bN_cl hn hs hJ
  refine sb.eq ?_ (gN_sub hc (bN_up n) 5)
  have h1 := (bN_g (J := J) (n := n) (x := 2 ^ s) n).tr (gN_up n (5 - n))
  rw [show n + (5 - n) = 5 by omega] at h1
  exact h1
theorem jt_N {P : PT} {J : Nat → Nat} {n : Nat} (hn : n ≤ 5) (hJ : ∀ k, k < n → P.2 3 k = nI (J k)) {x : Nat} (hx : x < 32) : ∀ i, i ≤ n → jtP P (nI x) i = nI (jN J x i)
  | 0, _ => rfl
  | i + 1, h => by
    rw [jtP, jN, bit_N x hx i (by omega), jt_N hn hJ hx i (by omega), hJ i (by omega), fa_or]
    split <;> rfl
theorem gP_N {P : PT} {J : Nat → Nat} {n : Nat} (hn : n ≤ 5) (hJ : ∀ k, k < n → J k < 2 ^ n ∧ P.2 3 k = nI (J k)) {x : Nat} (hx : x < 2 ^ n) : ∀ i, i ≤ n → gP P (nI x) i = nI (gI J x i)
  | 0, _ => rfl
  | i + 1, h => by
    have hp := (p2_b n (by omega)).1
    have hl := gI_lt (fun s hs => (hJ s hs).1) hx (i := i) (by omega)
    rw [gP, gI, gP_N hn hJ hx i (by omega), bit_N _ (by omega) i (by omega), (hJ i (by omega)).2]
    split
    · rw [fa_or]
    · rw [show (0 : Int32) = nI 0 from rfl, fa_or]
theorem block_eq {P : PT} (h5 : P.1.1 ≤ 5) (hj : jQ P) {k : Nat} (hk : k < P.1.1) : blockN P (1 <<< (nI k &&& 31)) P.1.1 = gR P (1 <<< (nI k &&& 31)) 5 := by
  have hp := (p2_b P.1.1 (by omega)).1
  obtain ⟨J, hJ⟩ : ∃ J : Nat → Nat, ∀ k, k < P.1.1 → J k < 2 ^ P.1.1 ∧ P.2 3 k = nI (J k) := by
    refine ⟨fun k => kk (P.2 3 k), fun k hk => ?_⟩
    obtain ⟨⟨q, hq, e⟩, -⟩ := hj k hk
    show kk (P.2 3 k) < _ ∧ P.2 3 k = nI (kk (P.2 3 k))
    rw [e, kk_nI (by omega)]
    exact ⟨hq, rfl⟩
  have hx : 2 ^ k < 2 ^ P.1.1 := Nat.pow_lt_pow_right (by decide) hk
  rw [sh_pow k (by omega)]
  have e1 : ∀ i, blockN P (nI (2 ^ k)) i = nI (bN J P.1.1 (2 ^ k) i) := fun i => by
    induction i with
    | zero => rfl
    | succ i ih =>
      have l1 := bN_lt (fun s hs => (hJ s hs).1) hx i
      rw [blockN, bN, ih, jt_N h5 (fun s hs => (hJ s hs).2) (by omega) _ (Nat.le_refl _), fa_or]
  have e2 : ∀ i, gR P (nI (2 ^ k)) i = nI (gN J P.1.1 (2 ^ k) i) := fun i => by
    induction i with
    | zero => rfl
    | succ i ih =>
      have l1 := gN_lt (fun s hs => (hJ s hs).1) hx i
      rw [gR, gN, ih, gP_N h5 hJ l1 _ (Nat.le_refl _)]
  rw [e1, e2, bN_eq h5 hk (fun s hs => (hJ s hs).1)]
set_option maxHeartbeats 4000000 in
set_option maxRecDepth 100000 in
theorem c_X4_block {w : Wd} {P : PT} {T : TT} {A : AT} {U : Nat → Bool} {K : Nat → PT} {N : NT} {z : Int64} (hS : mS w P T A U K N z) (hj : jQ P) {i : Int32} {Q : Option Value → Wd → Prop} (hQ : Q (some (.int (blockF P i))) w) : V mX4_block 0 [some (.ref 1), some (.int i), none, none, none] [] w Q := by
  have b5 := hS.1.2.2.1
  have b4 := hS.1.2.2.2.1
  have key : ∀ k x, Q (some (.int (gR P x 5))) w → ∀ r, r ≤ 5 → V mX4_block 16 [some (.ref 1), some (.int (nI k)), some (.int (gR P x r)), some (.int (nI r)), none] [] w Q := by
    intro k x hQ
    refine up (fun r hr ih => ?_)
    have inner : r < 5 → ∀ e, e ≤ P.1.1 → V mX4_block 24 [some (.ref 1), some (.int (nI k)), some (.int (gP P (gR P x r) e)), some (.int (nI r)), some (.int (nI e))] [] w Q := by
      intro hr5
      refine up (fun e he ihe => ?_)
      refine li_5_4 26 dX4_block_24 rfl ?_
      refine la_5_0 27 dX4_block_26 rfl ?_
      refine vgm_stamps hS.1 hb0 rfl 30 dX4_block_27 rfl ?_
      refine v_icmp_ge 65 33 dX4_block_30 rfl rfl (fun h30 => ?_) (fun h30 => ?_)
      · obtain rfl := ge_eq h30 he (by omega)
        refine icn_5_3 rfl 68 dX4_block_65 rfl rfl ?_
        refine v_goto 16 dX4_block_68 rfl ?_
        refine fg_5_4 ?_
        exact ih hr5
      · have hlt := ge_lt h30 (by omega) (by omega)
        refine li_5_2 34 dX4_block_33 rfl ?_
        refine li_5_2 35 dX4_block_34 rfl ?_
        refine li_5_4 37 dX4_block_35 rfl ?_
        refine v_cSI2 40 dX4_block_37 rfl fvX4_has fsX4_has ml_X4_71 ⟨(Nat.le_of_ble_eq_true rfl), (Nat.le_of_ble_eq_true rfl)⟩ (Nat.le_of_ble_eq_true rfl) (Nat.le_of_ble_eq_true rfl) (c_X4_has (fun q37 => ⟨_, rfl, ?_⟩) (fun q37 => ⟨_, rfl, ?_⟩)) rfl
        · refine v_if_eq 56 43 dX4_block_40 rfl rfl (fun h => absurd h (by decide)) (fun _ => ?_)
          refine la_5_0 44 dX4_block_43 rfl ?_
          refine vg_X4_16 rfl 47 dX4_block_44 rfl ?_
          refine v_bipush (v := 10) 49 dX4_block_47 rfl kb_10 ?_
          refine li_5_4 51 dX4_block_49 rfl ?_
          refine v_iadd 52 dX4_block_51 rfl ?_
          refine vmn_3 hS.1 hb0 _ 53 dX4_block_52 rfl (ixC 10 _) (by omega) ?_
          refine v_goto 57 dX4_block_53 rfl ?_
          refine v_ior 58 dX4_block_57 rfl ?_
          refine si_5_2 rfl 59 dX4_block_58 rfl rfl ?_
          refine icn_5_4 rfl 62 dX4_block_59 rfl rfl ?_
          refine v_goto 24 dX4_block_62 rfl ?_
          have ee := ihe hlt
          rw [show gP P (gR P x r) (e + 1) = gP P (gR P x r) e ||| P.2 3 e from by show _ ||| (if bit _ e then _ else _) = _; rw [q37]; rfl] at ee
          exact ee
        · refine v_if_eq 56 43 dX4_block_40 rfl rfl (fun _ => ?_) (fun h => absurd rfl h)
          refine v_iconst (v := 0) 57 dX4_block_56 rfl ki_0 ?_
          refine v_ior 58 dX4_block_57 rfl ?_
          refine si_5_2 rfl 59 dX4_block_58 rfl rfl ?_
          refine icn_5_4 rfl 62 dX4_block_59 rfl rfl ?_
          refine v_goto 24 dX4_block_62 rfl ?_
          have ee := ihe hlt
          rw [show gP P (gR P x r) (e + 1) = gP P (gR P x r) e ||| 0 from by show _ ||| (if bit _ e then _ else _) = _; rw [q37]; rfl] at ee
          exact ee
    refine li_5_3 17 dX4_block_16 rfl ?_
    refine v_iconst (v := 5) 18 dX4_block_17 rfl ki_5 ?_
    refine v_icmp_ge 71 21 dX4_block_18 rfl rfl (fun h18 => ?_) (fun h18 => ?_)
    · obtain rfl := ge_eq (n := 5) h18 hr (by omega)
      refine li_5_2 72 dX4_block_71 rfl ?_
      refine v_iret dX4_block_72 rfl ?_
      exact hQ
    · have hlt := ge_lt (n := 5) h18 (by omega) (by omega)
      refine v_iconst (v := 0) 22 dX4_block_21 rfl ki_0 ?_
      refine si_5_4 rfl 24 dX4_block_22 rfl rfl ?_
      exact inner hlt 0 (Nat.zero_le _)
  refine la_5_0 1 dX4_block_0 rfl ?_
  refine li_5_1 2 dX4_block_1 rfl ?_
  refine v_cVI1 5 dX4_block_2 rfl fvX4_isStamp fiX4_isStamp ml_X4_128 (seX4) rfl ⟨(Nat.le_of_ble_eq_true rfl), (Nat.le_of_ble_eq_true rfl)⟩ (Nat.le_of_ble_eq_true rfl) (Nat.le_of_ble_eq_true rfl) (c_X4_isStamp hS.1 hb0 (fun q2 => ⟨_, rfl, ?_⟩) (fun q2 => ⟨_, rfl, ?_⟩)) rfl
  · obtain ⟨k, hk, rfl⟩ := q2
    refine v_if_ne 10 8 dX4_block_5 rfl rfl (fun _ => ?_) (fun h => absurd h (by decide))
    refine v_iconst (v := 1) 11 dX4_block_10 rfl ki_1 ?_
    refine li_5_1 12 dX4_block_11 rfl ?_
    refine v_ishl 13 dX4_block_12 rfl ?_
    refine si_5_2 rfl 14 dX4_block_13 rfl rfl ?_
    refine v_iconst (v := 0) 15 dX4_block_14 rfl ki_0 ?_
    refine si_5_3 rfl 16 dX4_block_15 rfl rfl ?_
    exact key k _ (by rw [show blockF P (nI k) = _ from ifP_neg (fun kz => kz ⟨k, hk, rfl⟩), block_eq b5 hj hk] at hQ; exact hQ) 0 (Nat.zero_le _)
  · refine v_if_ne 10 8 dX4_block_5 rfl rfl (fun h => absurd rfl h) (fun _ => ?_)
    refine v_iconst (v := (-1)) 9 dX4_block_8 rfl ki_m1 ?_
    refine v_iret dX4_block_9 rfl ?_
    rw [show blockF P i = -1 from ifP_pos q2] at hQ
    exact hQ

/-- Euclid's steps are few -/
def gF : Nat → Nat → Nat → Nat
  | 0, a, _ => a
  | n + 1, a, b => if b = 0 then a else gF n b (a % b)
theorem gF_gcd : ∀ (k n a b : Nat), b < 2 ^ k → 2 * k + 1 ≤ n → gF n a b = Nat.gcd a b
  | 0, n, a, b, hb, hn => by
    obtain ⟨n, rfl⟩ : ∃ m, n = m + 1 := ⟨n - 1, by omega⟩
    have : b = 0 := by simpa using hb
    subst this
    simp [gF]
  | k + 1, n, a, b, hb, hn => by
    obtain ⟨n, rfl⟩ : ∃ m, n = m + 2 := ⟨n - 2, by omega⟩
    by_cases h0 : b = 0
    · subst h0; simp [gF]
    · rw [gF, if_neg h0, gF]
      by_cases h1 : a % b = 0
      · rw [if_pos h1, Nat.gcd_comm, Nat.gcd_rec, h1, Nat.gcd_zero_left]
      · rw [if_neg h1]
        have hlt : a % b < b := Nat.mod_lt _ (by omega)
        have hm : b % (a % b) < 2 ^ k := by
          have e1 : b % (a % b) < a % b := Nat.mod_lt _ (by omega)
          have e2 := Nat.div_add_mod b (a % b)
          have e3 : 1 ≤ b / (a % b) := Nat.div_pos (by omega) (by omega)
          have e4 : a % b * 1 ≤ a % b * (b / (a % b)) := Nat.mul_le_mul_left _ e3
          rw [Nat.pow_succ] at hb
          omega
        rw [gF_gcd k n (a % b) (b % (a % b)) hm (by omega)]
        rw [Nat.gcd_comm a b, Nat.gcd_rec b a, Nat.gcd_rec (a % b) b, Nat.gcd_comm (b % (a % b)) (a % b)]
theorem l_ne0 {b : Nat} (hb : b < 2 ^ 63) (h : ¬ b = 0) : ¬ lN b = 0 := fun q => h ((pk_lEQ (b := 0) hb (by decide)).mp q)
theorem lc_z {b : Nat} (hb : b < 2 ^ 63) (h : lg_cmp (lN b) 0 = 0) : b = 0 := (pk_lEQ (b := 0) hb (by decide)).mp (lcmp_eq.mp h)
theorem lc_nz {b : Nat} (h : ¬ lg_cmp (lN b) 0 = 0) : ¬ b = 0 := fun q => h (lcmp_eq.mpr (by rw [q]; rfl))
def toldN (a b : Nat) (x : Bool) : Nat := (if x then a else b) / Nat.gcd a b
set_option maxHeartbeats 4000000 in
set_option maxRecDepth 100000 in
theorem c_X3_commonDivisor {w : Wd} {a b : Nat} (ha : a < 2 ^ 63) (hb : b < 2 ^ 34) {Q : Option Value → Wd → Prop} (hQ : Q (some (.long (lN (Nat.gcd a b)))) w) : V mX3_commonDivisor 0 [some (.long (lN a)), none, some (.long (lN b)), none, none, none, none, none, none, none, none] [] w Q := by
  have key : ∀ i, i ≤ 100 → ∀ a b, a < 2 ^ 63 → b < 2 ^ 63 → Q (some (.long (lN (gF (100 - i) a b)))) w → V mX3_commonDivisor 9 [none, none, none, none, some (.long (lN a)), none, some (.long (lN b)), none, some (.int (nI i)), none, none] [] w Q := by
    refine up (P := fun i => ∀ a b, a < 2 ^ 63 → b < 2 ^ 63 → Q (some (.long (lN (gF (100 - i) a b)))) w → V mX3_commonDivisor 9 [none, none, none, none, some (.long (lN a)), none, some (.long (lN b)), none, some (.int (nI i)), none, none] [] w Q) (fun i hi ih => ?_)
    intro a b ha hb hQ
    refine li_11_8 11 dX3_commonDivisor_9 rfl ?_
    refine v_bipush (v := 100) 13 dX3_commonDivisor_11 rfl kb_100 ?_
    refine v_icmp_ge 44 16 dX3_commonDivisor_13 rfl rfl (fun h13 => ?_) (fun h13 => ?_)
    · obtain rfl := ge_eq (n := 100) h13 hi (by omega)
      refine ll_11_4 46 dX3_commonDivisor_44 rfl ?_
      refine v_lret dX3_commonDivisor_46 rfl ?_
      rw [Nat.sub_self] at hQ
      exact hQ
    · have hlt := ge_lt (n := 100) h13 (by omega) (by omega)
      have e : 100 - i = (100 - (i + 1)) + 1 := by omega
      refine ll_11_6 18 dX3_commonDivisor_16 rfl ?_
      refine v_lconst (v := 0) 19 dX3_commonDivisor_18 rfl rfl ?_
      refine v_lcmp 20 dX3_commonDivisor_19 rfl ?_
      refine v_if_eq 44 23 dX3_commonDivisor_20 rfl rfl (fun h20 => ?_) (fun h20 => ?_)
      · have g20 := lc_z hb h20
        refine ll_11_4 46 dX3_commonDivisor_44 rfl ?_
        refine v_lret dX3_commonDivisor_46 rfl ?_
        rw [e, gF, if_pos g20] at hQ
        exact hQ
      · have g20 := lc_nz h20
        refine ll_11_4 25 dX3_commonDivisor_23 rfl ?_
        refine ll_11_6 27 dX3_commonDivisor_25 rfl ?_
        refine v_lrem 28 dX3_commonDivisor_27 rfl (l_ne0 hb g20) ?_
        rw [pk_lRem ha (Nat.pos_of_ne_zero g20) hb]
        refine sl_11_9 rfl 30 dX3_commonDivisor_28 rfl rfl ?_
        refine ll_11_6 32 dX3_commonDivisor_30 rfl ?_
        refine sl_11_4 rfl 34 dX3_commonDivisor_32 rfl rfl ?_
        refine ll_11_9 36 dX3_commonDivisor_34 rfl ?_
        refine sl_11_6 rfl 38 dX3_commonDivisor_36 rfl rfl ?_
        refine icn_11_8 rfl 41 dX3_commonDivisor_38 rfl rfl ?_
        refine v_goto 9 dX3_commonDivisor_41 rfl ?_
        refine fg_11_9 ?_
        exact ih hlt b (a % b) hb (Nat.lt_of_le_of_lt (Nat.mod_le _ _) ha) (by rw [e, gF, if_neg g20] at hQ; exact hQ)
  refine ll_11_0 1 dX3_commonDivisor_0 rfl ?_
  refine sl_11_4 rfl 3 dX3_commonDivisor_1 rfl rfl ?_
  refine ll_11_2 4 dX3_commonDivisor_3 rfl ?_
  refine sl_11_6 rfl 6 dX3_commonDivisor_4 rfl rfl ?_
  refine v_iconst (v := 0) 7 dX3_commonDivisor_6 rfl ki_0 ?_
  refine si_11_8 rfl 9 dX3_commonDivisor_7 rfl rfl ?_
  refine fg_11_0 ?_
  refine fg_11_2 ?_
  exact key 0 (Nat.zero_le _) a b ha (by omega) (by rw [gF_gcd 34 (100 - 0) a b hb (by decide)]; exact hQ)
set_option maxHeartbeats 4000000 in
set_option maxRecDepth 100000 in
theorem c_X4_common {w : Wd} {a b : Nat} (ha : a < 2 ^ 63) (hb : b < 2 ^ 63) {Q : Option Value → Wd → Prop} (hQ : Q (some (.long (lN (Nat.gcd a b)))) w) : V mX4_common 0 [some (.long (lN a)), none, some (.long (lN b)), none, none, none, none, none, none, none] [] w Q := by
  have key : ∀ k a b, b < k → a < 2 ^ 63 → b < 2 ^ 63 → Q (some (.long (lN (Nat.gcd a b)))) w → V mX4_common 17 [none, none, none, none, some (.long (lN a)), none, some (.long (lN b)), none, none, none] [] w Q := by
    intro k
    induction k with
    | zero => intro a b h; exact absurd h (Nat.not_lt_zero _)
    | succ k ih =>
      intro a b hk ha hb hQ
      refine ll_10_6 19 dX4_common_17 rfl ?_
      refine v_lconst (v := 0) 20 dX4_common_19 rfl rfl ?_
      refine v_lcmp 21 dX4_common_20 rfl ?_
      refine v_if_eq 42 24 dX4_common_21 rfl rfl (fun h21 => ?_) (fun h21 => ?_)
      · have g20 := lc_z hb h21
        refine ll_10_4 44 dX4_common_42 rfl ?_
        refine v_lret dX4_common_44 rfl ?_
        rw [g20, Nat.gcd_zero_right] at hQ
        exact hQ
      · have g20 := lc_nz h21
        refine ll_10_4 26 dX4_common_24 rfl ?_
        refine ll_10_6 28 dX4_common_26 rfl ?_
        refine v_lrem 29 dX4_common_28 rfl (l_ne0 hb g20) ?_
        rw [pk_lRem ha (Nat.pos_of_ne_zero g20) hb]
        refine sl_10_8 rfl 31 dX4_common_29 rfl rfl ?_
        refine ll_10_6 33 dX4_common_31 rfl ?_
        refine sl_10_4 rfl 35 dX4_common_33 rfl rfl ?_
        refine ll_10_8 37 dX4_common_35 rfl ?_
        refine sl_10_6 rfl 39 dX4_common_37 rfl rfl ?_
        refine v_goto 17 dX4_common_39 rfl ?_
        refine fg_10_8 ?_
        exact ih b (a % b) (by have := Nat.mod_lt a (Nat.pos_of_ne_zero g20); omega) hb (Nat.lt_of_le_of_lt (Nat.mod_le _ _) ha) (by rw [Nat.gcd_comm, ← Nat.gcd_rec, Nat.gcd_comm]; exact hQ)
  refine ll_10_0 1 dX4_common_0 rfl ?_
  refine v_lconst (v := 0) 2 dX4_common_1 rfl rfl ?_
  refine v_lcmp 3 dX4_common_2 rfl ?_
  refine v_if_ge 11 6 dX4_common_3 rfl rfl (fun h3 => ?_) (fun h3 => ?_)
  · refine ll_10_0 12 dX4_common_11 rfl ?_
    refine sl_10_4 rfl 14 dX4_common_12 rfl rfl ?_
    refine ll_10_2 15 dX4_common_14 rfl ?_
    refine sl_10_6 rfl 17 dX4_common_15 rfl rfl ?_
    refine fg_10_0 ?_
    refine fg_10_2 ?_
    exact key (b + 1) a b (Nat.lt_succ_self _) ha hb hQ
  · exact absurd (lcmp_nge h3) (fun q => absurd ((pk_lLT ha (b := 0) (by decide)).mp q) (Nat.not_lt_zero _))
theorem told_1 {a b : Nat} (h0 : 0 < b) (h : ¬ (1 : Int64) < lN (Nat.gcd a b)) (hb : b < 2 ^ 34) : Nat.gcd a b = 1 := by
  have h1 : Nat.gcd a b ≤ b := Nat.gcd_le_right _ h0
  have h2 : 0 < Nat.gcd a b := Nat.gcd_pos_of_pos_right _ h0
  have h3 := (not_congr (pk_lLT (a := 1) (b := Nat.gcd a b) (by decide) (by omega))).mp h
  omega
set_option maxHeartbeats 4000000 in
set_option maxRecDepth 100000 in
theorem c_X3_toldPart {w : Wd} {a b : Nat} (ha : a < 2 ^ 63) (h0 : 0 < b) (hb : b < 2 ^ 34) {t : Int32} {Q : Option Value → Wd → Prop} (hQ : Q (some (.int (nI (toldN a b (decide (¬ t = 0)))))) w) : V mX3_toldPart 0 [some (.long (lN a)), none, some (.long (lN b)), none, some (.int t), none, none, none, none] [] w Q := by
  have hg0 : 0 < Nat.gcd a b := Nat.gcd_pos_of_pos_right _ h0
  have hg1 : Nat.gcd a b ≤ b := Nat.gcd_le_right _ h0
  refine ll_9_0 1 dX3_toldPart_0 rfl ?_
  refine ll_9_2 2 dX3_toldPart_1 rfl ?_
  refine v_cSJ2 5 dX3_toldPart_2 rfl fvX3_commonDivisor fsX3_commonDivisor ml_X3_260 ⟨(Nat.le_of_ble_eq_true rfl), (Nat.le_of_ble_eq_true rfl)⟩ (Nat.le_of_ble_eq_true rfl) (Nat.le_of_ble_eq_true rfl) (c_X3_commonDivisor ha hb ⟨_, rfl, ?_⟩) rfl
  refine sl_9_5 rfl 7 dX3_toldPart_5 rfl rfl ?_
  refine li_9_4 9 dX3_toldPart_7 rfl ?_
  refine v_if_eq 16 12 dX3_toldPart_9 rfl rfl (fun h9 => ?_) (fun h9 => ?_)
  · refine ll_9_2 17 dX3_toldPart_16 rfl ?_
    refine sl_9_7 rfl 19 dX3_toldPart_17 rfl rfl ?_
    refine ll_9_5 21 dX3_toldPart_19 rfl ?_
    refine v_lconst (v := 1) 22 dX3_toldPart_21 rfl rfl ?_
    refine v_lcmp 23 dX3_toldPart_22 rfl ?_
    refine v_if_le 35 26 dX3_toldPart_23 rfl rfl (fun h23 => ?_) (fun h23 => ?_)
    · refine ll_9_7 37 dX3_toldPart_35 rfl ?_
      refine v_l2i 38 dX3_toldPart_37 rfl ?_
      rw [lN_i]
      refine v_iret dX3_toldPart_38 rfl ?_
      have e1 := told_1 h0 (fun q => absurd (lcmp_gt.mpr q) (i_nlt.mpr h23)) hb
      rw [toldN, h9, e1] at hQ
      simpa using hQ
    · refine ll_9_7 28 dX3_toldPart_26 rfl ?_
      refine ll_9_5 30 dX3_toldPart_28 rfl ?_
      refine v_ldiv 31 dX3_toldPart_30 rfl (l_ne0 (by omega) (by omega)) ?_
      refine v_l2i 32 dX3_toldPart_31 rfl ?_
      rw [pk_lDiv (by omega) hg0 (by omega), lN_i]
      refine v_goto 38 dX3_toldPart_32 rfl ?_
      skip
      refine v_iret dX3_toldPart_38 rfl ?_
      rw [toldN, h9] at hQ
      simpa using hQ
  · refine ll_9_0 13 dX3_toldPart_12 rfl ?_
    refine v_goto 17 dX3_toldPart_13 rfl ?_
    refine sl_9_7 rfl 19 dX3_toldPart_17 rfl rfl ?_
    refine ll_9_5 21 dX3_toldPart_19 rfl ?_
    refine v_lconst (v := 1) 22 dX3_toldPart_21 rfl rfl ?_
    refine v_lcmp 23 dX3_toldPart_22 rfl ?_
    refine v_if_le 35 26 dX3_toldPart_23 rfl rfl (fun h23 => ?_) (fun h23 => ?_)
    · refine ll_9_7 37 dX3_toldPart_35 rfl ?_
      refine v_l2i 38 dX3_toldPart_37 rfl ?_
      rw [lN_i]
      refine v_iret dX3_toldPart_38 rfl ?_
      have e1 := told_1 h0 (fun q => absurd (lcmp_gt.mpr q) (i_nlt.mpr h23)) hb
      rw [toldN, e1] at hQ
      simpa [h9] using hQ
    · refine ll_9_7 28 dX3_toldPart_26 rfl ?_
      refine ll_9_5 30 dX3_toldPart_28 rfl ?_
      refine v_ldiv 31 dX3_toldPart_30 rfl (l_ne0 (by omega) (by omega)) ?_
      refine v_l2i 32 dX3_toldPart_31 rfl ?_
      rw [pk_lDiv (by omega) hg0 (by omega), lN_i]
      refine v_goto 38 dX3_toldPart_32 rfl ?_
      skip
      refine v_iret dX3_toldPart_38 rfl ?_
      rw [toldN] at hQ
      simpa [h9] using hQ
def facN : Nat → Nat
  | 0 => 1
  | n + 1 => facN n * (n + 1)
theorem fac_x {k j : Nat} (h1 : j ≤ k - 1) (h2 : k < j + 2) : facN (j + 1) = facN k := by
  rcases Nat.eq_zero_or_pos k with rfl | h
  · rw [show j = 0 by omega]; rfl
  · rw [show k = j + 1 by omega]
set_option maxHeartbeats 4000000 in
set_option maxRecDepth 100000 in
theorem c_X3_factorial {w : Wd} {k : Nat} (hk : k < 1000) {Q : Option Value → Wd → Prop} (hQ : Q (some (.long (lN (facN k)))) w) : V mX3_factorial 0 [some (.int (nI k)), none, none, none] [] w Q := by
  have key : ∀ j, j ≤ k - 1 → V mX3_factorial 4 [some (.int (nI k)), some (.long (lN (facN (j + 1)))), none, some (.int (nI (j + 2)))] [] w Q := by
    refine up (fun j hj ih => ?_)
    refine li_4_3 5 dX3_factorial_4 rfl ?_
    refine li_4_0 6 dX3_factorial_5 rfl ?_
    refine v_icmp_gt 20 9 dX3_factorial_6 rfl rfl (fun h6 => ?_) (fun h6 => ?_)
    · have hgt : k < j + 2 := by rw [nI_ltI (by omega) (by omega)] at h6; exact h6
      refine ll_4_1 21 dX3_factorial_20 rfl ?_
      refine v_lret dX3_factorial_21 rfl ?_
      rw [fac_x hj hgt]
      exact hQ
    · have hgt : j + 2 ≤ k := by rw [nI_ltI (by omega) (by omega)] at h6; omega
      refine ll_4_1 10 dX3_factorial_9 rfl ?_
      refine li_4_3 11 dX3_factorial_10 rfl ?_
      refine v_i2l 12 dX3_factorial_11 rfl ?_
      refine v_lmul 13 dX3_factorial_12 rfl ?_
      rw [nI_l (by omega), lN_mul]
      refine sl_4_1 rfl 14 dX3_factorial_13 rfl rfl ?_
      refine icn_4_3 rfl 17 dX3_factorial_14 rfl rfl ?_
      refine v_goto 4 dX3_factorial_17 rfl ?_
      exact ih (by omega)
  refine v_lconst (v := 1) 1 dX3_factorial_0 rfl rfl ?_
  refine sl_4_1 rfl 2 dX3_factorial_1 rfl rfl ?_
  refine v_iconst (v := 2) 3 dX3_factorial_2 rfl ki_2 ?_
  refine si_4_3 rfl 4 dX3_factorial_3 rfl rfl ?_
  exact key 0 (Nat.zero_le _)
set_option maxHeartbeats 4000000 in
set_option maxRecDepth 100000 in
theorem c_X4_factorial {w : Wd} {k : Nat} (hk : k < 1000) {Q : Option Value → Wd → Prop} (hQ : Q (some (.int (nI (facN k)))) w) : V mX4_factorial 0 [some (.int (nI k)), none, none] [] w Q := by
  have key : ∀ j, j ≤ k - 1 → V mX4_factorial 4 [some (.int (nI k)), some (.int (nI (facN (j + 1)))), some (.int (nI (j + 2)))] [] w Q := by
    refine up (fun j hj ih => ?_)
    refine li_3_2 5 dX4_factorial_4 rfl ?_
    refine li_3_0 6 dX4_factorial_5 rfl ?_
    refine v_icmp_gt 19 9 dX4_factorial_6 rfl rfl (fun h6 => ?_) (fun h6 => ?_)
    · have hgt : k < j + 2 := by rw [nI_ltI (by omega) (by omega)] at h6; exact h6
      refine li_3_1 20 dX4_factorial_19 rfl ?_
      refine v_iret dX4_factorial_20 rfl ?_
      rw [fac_x hj hgt]
      exact hQ
    · have hgt : j + 2 ≤ k := by rw [nI_ltI (by omega) (by omega)] at h6; omega
      refine li_3_1 10 dX4_factorial_9 rfl ?_
      refine li_3_2 11 dX4_factorial_10 rfl ?_
      refine v_imul 12 dX4_factorial_11 rfl ?_
      rw [pk_mul]
      refine si_3_1 rfl 13 dX4_factorial_12 rfl rfl ?_
      refine icn_3_2 rfl 16 dX4_factorial_13 rfl rfl ?_
      refine v_goto 4 dX4_factorial_16 rfl ?_
      exact ih (by omega)
  refine v_iconst (v := 1) 1 dX4_factorial_0 rfl ki_1 ?_
  refine si_3_1 rfl 2 dX4_factorial_1 rfl rfl ?_
  refine v_iconst (v := 2) 3 dX4_factorial_2 rfl ki_2 ?_
  refine si_3_2 rfl 4 dX4_factorial_3 rfl rfl ?_
  exact key 0 (Nat.zero_le _)
set_option maxHeartbeats 4000000 in
set_option maxRecDepth 100000 in
theorem c_X3_power {w : Wd} {x k : Nat} (hx : x < 1000) (hk : k < 1000) {Q : Option Value → Wd → Prop} (hQ : Q (some (.long (lN (x ^ k)))) w) : V mX3_power 0 [some (.int (nI x)), some (.int (nI k)), none, none, none] [] w Q := by
  have key : ∀ i, i ≤ k → V mX3_power 5 [some (.int (nI x)), some (.int (nI k)), some (.long (lN (x ^ i))), none, some (.int (nI i))] [] w Q := by
    refine up (fun i hi ih => ?_)
    refine li_5_4 7 dX3_power_5 rfl ?_
    refine li_5_1 8 dX3_power_7 rfl ?_
    refine v_icmp_ge 22 11 dX3_power_8 rfl rfl (fun h8 => ?_) (fun h8 => ?_)
    · obtain rfl := ge_eq h8 hi (by omega)
      refine ll_5_2 23 dX3_power_22 rfl ?_
      refine v_lret dX3_power_23 rfl ?_
      exact hQ
    · have hlt := ge_lt h8 (by omega) (by omega)
      refine ll_5_2 12 dX3_power_11 rfl ?_
      refine li_5_0 13 dX3_power_12 rfl ?_
      refine v_i2l 14 dX3_power_13 rfl ?_
      refine v_lmul 15 dX3_power_14 rfl ?_
      rw [nI_l (by omega), lN_mul, ← Nat.pow_succ]
      refine sl_5_2 rfl 16 dX3_power_15 rfl rfl ?_
      refine icn_5_4 rfl 19 dX3_power_16 rfl rfl ?_
      refine v_goto 5 dX3_power_19 rfl ?_
      exact ih hlt
  refine v_lconst (v := 1) 1 dX3_power_0 rfl rfl ?_
  refine sl_5_2 rfl 2 dX3_power_1 rfl rfl ?_
  refine v_iconst (v := 0) 3 dX3_power_2 rfl ki_0 ?_
  refine si_5_4 rfl 5 dX3_power_3 rfl rfl ?_
  exact key 0 (Nat.zero_le _)
def chC (n m : Nat) : Nat → Nat
  | 0 => 1
  | i + 1 => chC n m i * (n - m + (i + 1)) / (i + 1)
def chR (n : Nat) : Nat → Nat
  | 0 => 1
  | i + 1 => chR n i * (n - i) / (i + 1)
theorem ch_b1 : ∀ n, n < 11 → ∀ m, m < 10 → m ≤ n → chC n m m = chR n m := by decide +kernel
theorem ch_b2 : ∀ n, n < 11 → ∀ m, m < 10 → ∀ i, i < 11 → m ≤ n → i ≤ m → chC n m i < 1000 := by decide +kernel
theorem ch_b3 : ∀ n, n < 11 → ∀ i, i < 11 → chR n i < 1000 := by decide +kernel
set_option maxHeartbeats 4000000 in
set_option maxRecDepth 100000 in
theorem c_X3_choose {w : Wd} {n m : Nat} (hn : n < 11) (hm : m < 10) (hmn : m ≤ n) {Q : Option Value → Wd → Prop} (hQ : Q (some (.long (lN (chR n m)))) w) : V mX3_choose 0 [some (.int (nI n)), some (.int (nI m)), none, none, none] [] w Q := by
  have key : ∀ i, i ≤ m → V mX3_choose 5 [some (.int (nI n)), some (.int (nI m)), some (.long (lN (chC n m i))), none, some (.int (nI (i + 1)))] [] w Q := by
    refine up (fun i hi ih => ?_)
    have hb := ch_b2 n hn m hm i (by omega) hmn hi
    have hbm : chC n m i * (n - m + (i + 1)) < 2 ^ 63 := Nat.lt_of_le_of_lt (Nat.mul_le_mul (Nat.le_of_lt hb) (show n - m + (i + 1) ≤ 1000 by omega)) (by decide)
    refine li_5_4 7 dX3_choose_5 rfl ?_
    refine li_5_1 8 dX3_choose_7 rfl ?_
    refine v_icmp_gt 31 11 dX3_choose_8 rfl rfl (fun h8 => ?_) (fun h8 => ?_)
    · have hgt : i = m := by rw [nI_ltI (by omega) (by omega)] at h8; omega
      refine ll_5_2 32 dX3_choose_31 rfl ?_
      refine v_lret dX3_choose_32 rfl ?_
      subst hgt
      rw [ch_b1 n hn i hm hmn]
      exact hQ
    · have hgt : i < m := by rw [nI_ltI (by omega) (by omega)] at h8; omega
      refine ll_5_2 12 dX3_choose_11 rfl ?_
      refine li_5_0 13 dX3_choose_12 rfl ?_
      refine li_5_1 14 dX3_choose_13 rfl ?_
      refine v_isub 15 dX3_choose_14 rfl ?_
      refine li_5_4 17 dX3_choose_15 rfl ?_
      refine v_iadd 18 dX3_choose_17 rfl ?_
      refine v_i2l 19 dX3_choose_18 rfl ?_
      skip
      refine v_lmul 20 dX3_choose_19 rfl ?_
      rw [pk_sub hmn, nI_add, nI_l (by omega), lN_mul]
      refine li_5_4 22 dX3_choose_20 rfl ?_
      refine v_i2l 23 dX3_choose_22 rfl ?_
      rw [nI_l (by omega)]
      refine v_ldiv 24 dX3_choose_23 rfl (l_ne0 (by omega) (by omega)) ?_
      rw [pk_lDiv hbm (by omega) (by omega)]
      refine sl_5_2 rfl 25 dX3_choose_24 rfl rfl ?_
      refine icn_5_4 rfl 28 dX3_choose_25 rfl rfl ?_
      refine v_goto 5 dX3_choose_28 rfl ?_
      exact ih hgt
  refine v_lconst (v := 1) 1 dX3_choose_0 rfl rfl ?_
  refine sl_5_2 rfl 2 dX3_choose_1 rfl rfl ?_
  refine v_iconst (v := 1) 3 dX3_choose_2 rfl ki_1 ?_
  refine si_5_4 rfl 5 dX3_choose_3 rfl rfl ?_
  exact key 0 (Nat.zero_le _)

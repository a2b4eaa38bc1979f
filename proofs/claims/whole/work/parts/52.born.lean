/-- who is joined to whom: within the stamps, never to itself, both ways -/
def jQ (P : PT) : Prop := ∀ k, k < P.1.1 → (∃ q, q < 2 ^ P.1.1 ∧ P.2 3 k = nI q) ∧ bit (P.2 3 k) k = false ∧ ∀ m, m < P.1.1 → bit (P.2 3 k) m = bit (P.2 3 m) k
theorem pc_bits : ∀ x, x < 32 → pcN x = (x.testBit 0).toNat + (x.testBit 1).toNat + (x.testBit 2).toNat + (x.testBit 3).toNat + (x.testBit 4).toNat := by decide +kernel
theorem pc_lo0 : ∀ x, x < 32 → pcN (x &&& 2 ^ 0 - 1) = 0 := by decide +kernel
theorem pc_lo1 : ∀ x, x < 32 → pcN (x &&& 2 ^ 1 - 1) = (x.testBit 0).toNat := by decide +kernel
theorem pc_lo2 : ∀ x, x < 32 → pcN (x &&& 2 ^ 2 - 1) = (x.testBit 0).toNat + (x.testBit 1).toNat := by decide +kernel
theorem pc_lo3 : ∀ x, x < 32 → pcN (x &&& 2 ^ 3 - 1) = (x.testBit 0).toNat + (x.testBit 1).toNat + (x.testBit 2).toNat := by decide +kernel
theorem pc_lo4 : ∀ x, x < 32 → pcN (x &&& 2 ^ 4 - 1) = (x.testBit 0).toNat + (x.testBit 1).toNat + (x.testBit 2).toNat + (x.testBit 3).toNat := by decide +kernel
theorem suN_5 {f : Nat → Nat} {n : Nat} (hn : n ≤ 5) (h : ∀ i, n ≤ i → f i = 0) : suN f n = f 0 + f 1 + f 2 + f 3 + f 4 := by
  rcases (show n = 0 ∨ n = 1 ∨ n = 2 ∨ n = 3 ∨ n = 4 ∨ n = 5 by omega) with rfl | rfl | rfl | rfl | rfl | rfl
  · simp only [suN, h 0 (by omega), h 1 (by omega), h 2 (by omega), h 3 (by omega), h 4 (by omega)]
  · simp only [suN, h 1 (by omega), h 2 (by omega), h 3 (by omega), h 4 (by omega)]; omega
  · simp only [suN, h 2 (by omega), h 3 (by omega), h 4 (by omega)]; omega
  · simp only [suN, h 3 (by omega), h 4 (by omega)]; omega
  · simp only [suN, h 4 (by omega)]; omega
  · simp only [suN]; omega
theorem bt_le (x : Bool) : x.toNat ≤ 1 := by cases x <;> decide
/-- a symmetric table counted twice -/
theorem sym_c {M : Nat → Nat} (hM : ∀ s, M s < 32) (hs : ∀ s t, s < 5 → t < 5 → (M s).testBit t = (M t).testBit s) (hd : ∀ s, s < 5 → (M s).testBit s = false) :
    ∃ p, p ≤ 10 ∧ pcN (M 0) + pcN (M 1) + pcN (M 2) + pcN (M 3) + pcN (M 4) = 2 * p ∧ pcN (M 0 &&& 2 ^ 0 - 1) + pcN (M 1 &&& 2 ^ 1 - 1) + pcN (M 2 &&& 2 ^ 2 - 1) + pcN (M 3 &&& 2 ^ 3 - 1) + pcN (M 4 &&& 2 ^ 4 - 1) = p := by
  rw [pc_bits _ (hM 0), pc_bits _ (hM 1), pc_bits _ (hM 2), pc_bits _ (hM 3), pc_bits _ (hM 4), pc_lo0 _ (hM 0), pc_lo1 _ (hM 1), pc_lo2 _ (hM 2), pc_lo3 _ (hM 3), pc_lo4 _ (hM 4)]
  rw [hd 0 (by decide), hd 1 (by decide), hd 2 (by decide), hd 3 (by decide), hd 4 (by decide)]
  rw [hs 0 1 (by decide) (by decide), hs 0 2 (by decide) (by decide), hs 0 3 (by decide) (by decide), hs 0 4 (by decide) (by decide), hs 1 2 (by decide) (by decide), hs 1 3 (by decide) (by decide), hs 1 4 (by decide) (by decide), hs 2 3 (by decide) (by decide), hs 2 4 (by decide) (by decide), hs 3 4 (by decide) (by decide)]
  have a1 := bt_le ((M 1).testBit 0)
  have a2 := bt_le ((M 2).testBit 0)
  have a3 := bt_le ((M 3).testBit 0)
  have a4 := bt_le ((M 4).testBit 0)
  have a5 := bt_le ((M 2).testBit 1)
  have a6 := bt_le ((M 3).testBit 1)
  have a7 := bt_le ((M 4).testBit 1)
  have a8 := bt_le ((M 3).testBit 2)
  have a9 := bt_le ((M 4).testBit 2)
  have a0 := bt_le ((M 4).testBit 3)
  refine ⟨_, ?_, ?_, rfl⟩
  · omega
  · rw [Bool.toNat_false]; omega
def pairF (P : PT) (i : Nat) : Int32 := suB (fun s => if bit (aliveP P) s then onI (P.2 3 s &&& aliveP P &&& (1 <<< (nI s &&& 31) - 1)) 5 else 0) i
theorem pc_0 : pcN 0 = 0 := by decide +kernel
theorem and_b {a c : Nat} (h : a < 32) : a &&& c < 32 := Nat.lt_of_le_of_lt Nat.and_le_left h
theorem pairs_N {P : PT} (h5 : P.1.1 ≤ 5) (hJ : jQ P) : ∃ p, p ≤ 10 ∧ endsP P / 2 = nI p ∧ pairF P P.1.1 = nI p := by
  obtain ⟨a, ha, ea⟩ : ∃ a, a < 32 ∧ aliveP P = nI a := orB_32 _ h5
  obtain ⟨J, hJe⟩ : ∃ J : Nat → Nat, ∀ k, k < P.1.1 → J k < 2 ^ P.1.1 ∧ P.2 3 k = nI (J k) := by
    refine ⟨fun k => kk (P.2 3 k), fun k hk => ?_⟩
    obtain ⟨⟨q, hq, e⟩, -⟩ := hJ k hk
    have := (p2_b P.1.1 (by omega)).1
    show kk (P.2 3 k) < _ ∧ P.2 3 k = nI (kk (P.2 3 k))
    rw [e, kk_nI (by omega)]
    exact ⟨hq, rfl⟩
  have hp := (p2_b P.1.1 (by omega)).1
  let M : Nat → Nat := fun k => if k < P.1.1 then (if a.testBit k then J k &&& a else 0) else 0
  have hM32 : ∀ s, M s < 32 := fun s => by
    show (if s < P.1.1 then (if a.testBit s then J s &&& a else 0) else 0) < 32
    split
    · rename_i q
      split
      · exact and_b (by have := (hJe s q).1; omega)
      · decide
    · decide
  have hMt : ∀ s t, s < 5 → t < 5 → (M s).testBit t = (decide (s < P.1.1) && a.testBit s && (J s).testBit t && a.testBit t) := fun s t _ _ => by
    show (if s < P.1.1 then (if a.testBit s then J s &&& a else 0) else 0).testBit t = _
    by_cases q : s < P.1.1
    · rw [if_pos q, decide_eq_true q]
      cases a.testBit s
      · simp
      · simp [Nat.testBit_and]
    · rw [if_neg q, decide_eq_false q]; simp
  have hJt : ∀ s t, s < P.1.1 → t < P.1.1 → (J s).testBit t = (J t).testBit s := fun s t hs ht => by
    have e := (hJ s hs).2.2 t ht
    rw [(hJe s hs).2, (hJe t ht).2, bit_N _ (by have := (hJe s hs).1; omega) t (by omega), bit_N _ (by have := (hJe t ht).1; omega) s (by omega)] at e
    exact e
  have hJd : ∀ s, s < P.1.1 → (J s).testBit s = false := fun s hs => by
    have e := (hJ s hs).2.1
    rw [(hJe s hs).2, bit_N _ (by have := (hJe s hs).1; omega) s (by omega)] at e
    exact e
  have hJo : ∀ s t, s < P.1.1 → P.1.1 ≤ t → (J s).testBit t = false := fun s t hs ht => Nat.testBit_lt_two_pow (Nat.lt_of_lt_of_le (hJe s hs).1 (Nat.pow_le_pow_right (by decide) ht))
  obtain ⟨p, hp10, e1, e2⟩ := sym_c (M := M) hM32 (fun s t hs ht => by
    rw [hMt s t hs ht, hMt t s ht hs]
    by_cases q1 : s < P.1.1
    · by_cases q2 : t < P.1.1
      · rw [decide_eq_true q1, decide_eq_true q2, hJt s t q1 q2]
        cases a.testBit s <;> cases a.testBit t <;> simp
      · rw [decide_eq_false q2, hJo s t q1 (by omega)]; simp
    · by_cases q2 : t < P.1.1
      · rw [decide_eq_false q1, hJo t s q2 (by omega)]; simp
      · rw [decide_eq_false q1, decide_eq_false q2]; simp) (fun s hs => by
    rw [hMt s s hs hs]
    by_cases q1 : s < P.1.1
    · rw [hJd s q1]; simp
    · rw [decide_eq_false q1]; simp)
  have hMo : ∀ i, P.1.1 ≤ i → M i = 0 := fun i hi => if_neg (by omega)
  have s1 : endsP P = nI (suN (fun s => pcN (M s)) P.1.1) := suB_N (fun i hi => by
    have hm : M i = if a.testBit i then J i &&& a else 0 := if_pos hi
    rw [ea, bit_N a ha i (by omega), (hJe i hi).2, fa_and, hm]
    cases a.testBit i
    · simp only [Bool.false_eq_true, if_false]; rw [pc_0]; rfl
    · simp only [if_true]; exact (pc_bc _ (and_b (by have := (hJe i hi).1; omega))).1)
  have s2 : pairF P P.1.1 = nI (suN (fun s => pcN (M s &&& 2 ^ s - 1)) P.1.1) := suB_N (fun i hi => by
    have hm : M i = if a.testBit i then J i &&& a else 0 := if_pos hi
    rw [ea, bit_N a ha i (by omega), (hJe i hi).2, fa_and, hm, sh_pow i (by omega), show nI (2 ^ i) - 1 = nI (2 ^ i - 1) from pk_sub (b := 1) (Nat.pow_pos (by decide)), fa_and]
    cases a.testBit i
    · simp only [Bool.false_eq_true, if_false, Nat.zero_and]; rw [pc_0]; rfl
    · simp only [if_true]; exact pc_on _ (and_b (and_b (by have := (hJe i hi).1; omega))))
  refine ⟨p, hp10, ?_, ?_⟩
  · rw [s1, suN_5 h5 (fun i hi => by show pcN (M i) = 0; rw [hMo i hi, pc_0])]
    show nI (pcN (M 0) + pcN (M 1) + pcN (M 2) + pcN (M 3) + pcN (M 4)) / 2 = _
    rw [e1, show (2 : Int32) = nI 2 from rfl, pk_div (by omega) (by decide) (by decide), Nat.mul_div_cancel_left _ (by decide)]
  · rw [s2, suN_5 h5 (fun i hi => by show pcN (M i &&& 2 ^ i - 1) = 0; rw [hMo i hi, Nat.zero_and, pc_0])]
    exact congrArg nI e2
def bornN (p m x : Nat) (t : Bool) : Nat := if p < m then (if t then 0 else 1) else toldN (chR p m * x ^ m * (10 - x) ^ (p - m)) (10 ^ p) t
noncomputable def bornF (p : Nat) (m x t : Int32) : Int32 := ifP (¬ (inQ m 10 ∧ inQ x 11)) (-2) (nI (bornN p (kk m) (kk x) (decide (¬ t = 0))))
theorem inQ_le {m : Int32} {c : Nat} (hc : c < 1000) (h1 : ¬ m < 0) (h2 : ¬ nI c < m) : inQ m (c + 1) := by
  obtain ⟨k, hk, e⟩ := nI_of h1
  refine ⟨k, ?_, e⟩
  rw [e, nI_ltI (by omega) hk] at h2
  omega
theorem nQ_gt {m : Int32} {c : Nat} (hc : c < 1000) (h2 : nI c < m) : ¬ inQ m (c + 1) := by
  rintro ⟨k, hk, rfl⟩
  rw [nI_ltI (by omega) (by omega)] at h2
  omega
theorem inQ_lL {m : Int32} {c : Nat} {d : Int64} (hc : c < 1000) (hd : d = (nI c).toInt64) (h : ¬ m.toInt64 < 0 ∧ ¬ d < m.toInt64) : inQ m (c + 1) := by
  subst hd
  exact inQ_le hc (fun q => h.1 ((w64 m 0).mpr q)) (fun q => h.2 ((w64 (nI c) m).mpr q))
theorem nQ_lL {m : Int32} {c : Nat} {d : Int64} (hc : c < 1000) (hd : d = (nI c).toInt64) (h : m.toInt64 < 0 ∨ d < m.toInt64) : ¬ inQ m (c + 1) := by
  subst hd
  rcases h with h | h
  · exact nQ_0 (by omega) ((w64 m 0).mp h)
  · exact nQ_gt hc ((w64 (nI c) m).mp h)
theorem born_b {p m x : Nat} (hp : p ≤ 10) (hx : x ≤ 10) (hm : m ≤ p) : chR p m * x ^ m * (10 - x) ^ (p - m) < 2 ^ 63 := by
  have h1 := ch_b3 p (by omega) m (by omega)
  have h2 : x ^ m ≤ 10 ^ m := Nat.pow_le_pow_left hx m
  have h3 : (10 - x) ^ (p - m) ≤ 10 ^ (p - m) := Nat.pow_le_pow_left (by omega) _
  have h4 := Nat.mul_le_mul (Nat.mul_le_mul (Nat.le_of_lt h1) h2) h3
  rw [Nat.mul_assoc 1000, ← Nat.pow_add, show m + (p - m) = p by omega] at h4
  have h5 : 10 ^ p ≤ 10 ^ 10 := Nat.pow_le_pow_right (by decide) hp
  have h6 := Nat.mul_le_mul_left 1000 h5
  exact Nat.lt_of_le_of_lt (Nat.le_trans h4 h6) (by decide)
theorem p10_b {p : Nat} (hp : p ≤ 10) : 0 < 10 ^ p ∧ 10 ^ p < 2 ^ 34 := ⟨Nat.pow_pos (by decide), Nat.lt_of_le_of_lt (Nat.pow_le_pow_right (by decide) hp) (by decide)⟩
theorem told_01 (t : Bool) : toldN 0 1 t = if t then 0 else 1 := by cases t <;> rfl
theorem told_0 {b : Nat} (hb : 0 < b) (t : Bool) : toldN 0 b t = if t then 0 else 1 := by
  cases t
  · show b / Nat.gcd 0 b = 1; rw [Nat.gcd_zero_left, Nat.div_self hb]
  · show 0 / _ = 0; rw [Nat.zero_div]
set_option maxHeartbeats 4000000 in
set_option maxRecDepth 100000 in
theorem c_X3_born {w : Wd} {P : PT} {T : TT} {A : AT} {U : Nat → Bool} {K : Nat → PT} {N : NT} {z : Int64} (hS : cS w P T A U K N z) {p : Nat} (hp : p ≤ 10) (he : endsP P / 2 = nI p) {m x t : Int32} {Q : Option Value → Wd → Prop} (hQ : Q (some (.int (bornF p m x t))) w) : V mX3_born 0 [some (.ref 0), some (.int m), some (.int x), some (.int t), none, none, none] [] w Q := by
  have b5 := hS.1.2.2.2.2.1
  have b4 := hS.1.2.2.2.2.2.1
  refine li_7_1 1 dX3_born_0 rfl ?_
  refine v_if_lt 20 4 dX3_born_1 rfl rfl (fun h1 => ?_) (fun h1 => ?_)
  · refine v_bipush (v := (-2)) 22 dX3_born_20 rfl kb_m2 ?_
    refine v_iret dX3_born_22 rfl ?_
    rw [show bornF p m x t = -2 from ifP_pos (fun kz => nQ_0 (by decide) h1 kz.1)] at hQ
    exact hQ
  · refine li_7_1 5 dX3_born_4 rfl ?_
    refine v_bipush (v := 9) 7 dX3_born_5 rfl kb_9 ?_
    refine v_icmp_gt 20 10 dX3_born_7 rfl rfl (fun h7 => ?_) (fun h7 => ?_)
    · refine v_bipush (v := (-2)) 22 dX3_born_20 rfl kb_m2 ?_
      refine v_iret dX3_born_22 rfl ?_
      rw [show bornF p m x t = -2 from ifP_pos (fun kz => nQ_gt (c := 9) (by decide) h7 kz.1)] at hQ
      exact hQ
    · refine li_7_2 11 dX3_born_10 rfl ?_
      refine v_if_lt 20 14 dX3_born_11 rfl rfl (fun h11 => ?_) (fun h11 => ?_)
      · refine v_bipush (v := (-2)) 22 dX3_born_20 rfl kb_m2 ?_
        refine v_iret dX3_born_22 rfl ?_
        rw [show bornF p m x t = -2 from ifP_pos (fun kz => nQ_0 (by decide) h11 kz.2)] at hQ
        exact hQ
      · refine li_7_2 15 dX3_born_14 rfl ?_
        refine v_bipush (v := 10) 17 dX3_born_15 rfl kb_10 ?_
        refine v_icmp_le 23 20 dX3_born_17 rfl rfl (fun h17 => ?_) (fun h17 => ?_)
        · obtain ⟨a, ha, rfl⟩ := inQ_le (c := 9) (by decide) h1 h7
          obtain ⟨c, hc, rfl⟩ := inQ_le (c := 10) (by decide) h11 (i_nlt.mpr h17)
          have h10 := p10_b hp
          have eb : bornF p (nI a) (nI c) t = nI (bornN p a c (decide (¬ t = 0))) := by
            rw [show bornF p (nI a) (nI c) t = _ from ifP_neg (fun kz => kz ⟨⟨a, ha, rfl⟩, ⟨c, hc, rfl⟩⟩), kk_nI (by omega), kk_nI (by omega)]
          rw [eb] at hQ
          refine la_7_0 24 dX3_born_23 rfl ?_
          refine vg_X3_23 rfl 27 dX3_born_24 rfl ?_
          refine v_cVI0 30 dX3_born_27 rfl fvX1_livingPairs fiX1_livingPairs ml_X3_208 (seX1 hb0) rfl ⟨(Nat.le_of_ble_eq_true rfl), (Nat.le_of_ble_eq_true rfl)⟩ (Nat.le_of_ble_eq_true rfl) (Nat.le_of_ble_eq_true rfl) (c_X1_livingPairs hb0 hS.1 ⟨_, rfl, ?_⟩) rfl
          rw [he]
          refine si_7_4 rfl 32 dX3_born_30 rfl rfl ?_
          refine li_7_1 33 dX3_born_32 rfl ?_
          refine li_7_4 35 dX3_born_33 rfl ?_
          refine v_icmp_le 45 38 dX3_born_35 rfl rfl (fun h35 => ?_) (fun h35 => ?_)
          · have hap : a ≤ p := by rw [nI_leI (by omega) (by omega)] at h35; exact h35
            have hbb := born_b hp (show c ≤ 10 by omega) hap
            refine li_7_4 47 dX3_born_45 rfl ?_
            refine li_7_1 48 dX3_born_47 rfl ?_
            refine v_cSJ2 51 dX3_born_48 rfl fvX3_choose fsX3_choose ml_X3_211 ⟨(Nat.le_of_ble_eq_true rfl), (Nat.le_of_ble_eq_true rfl)⟩ (Nat.le_of_ble_eq_true rfl) (Nat.le_of_ble_eq_true rfl) (c_X3_choose (by omega) ha hap ⟨_, rfl, ?_⟩) rfl
            refine li_7_2 52 dX3_born_51 rfl ?_
            refine li_7_1 53 dX3_born_52 rfl ?_
            refine v_cSJ2 56 dX3_born_53 rfl fvX3_power fsX3_power ml_X3_215 ⟨(Nat.le_of_ble_eq_true rfl), (Nat.le_of_ble_eq_true rfl)⟩ (Nat.le_of_ble_eq_true rfl) (Nat.le_of_ble_eq_true rfl) (c_X3_power (by omega) (by omega) ⟨_, rfl, ?_⟩) rfl
            refine v_lmul 57 dX3_born_56 rfl ?_
            rw [lN_mul]
            refine v_bipush (v := 10) 59 dX3_born_57 rfl kb_10 ?_
            refine li_7_2 60 dX3_born_59 rfl ?_
            refine v_isub 61 dX3_born_60 rfl ?_
            refine li_7_4 63 dX3_born_61 rfl ?_
            refine li_7_1 64 dX3_born_63 rfl ?_
            refine v_isub 65 dX3_born_64 rfl ?_
            rw [show (10 : Int32) - nI c = nI (10 - c) from pk_sub (a := 10) (by omega), pk_sub hap]
            refine v_cSJ2 68 dX3_born_65 rfl fvX3_power fsX3_power ml_X3_215 ⟨(Nat.le_of_ble_eq_true rfl), (Nat.le_of_ble_eq_true rfl)⟩ (Nat.le_of_ble_eq_true rfl) (Nat.le_of_ble_eq_true rfl) (c_X3_power (by omega) (by omega) ⟨_, rfl, ?_⟩) rfl
            refine v_lmul 69 dX3_born_68 rfl ?_
            rw [lN_mul]
            refine sl_7_5 rfl 71 dX3_born_69 rfl rfl ?_
            refine ll_7_5 73 dX3_born_71 rfl ?_
            refine v_bipush (v := 10) 75 dX3_born_73 rfl kb_10 ?_
            refine li_7_4 77 dX3_born_75 rfl ?_
            refine v_cSJ2 80 dX3_born_77 rfl fvX3_power fsX3_power ml_X3_215 ⟨(Nat.le_of_ble_eq_true rfl), (Nat.le_of_ble_eq_true rfl)⟩ (Nat.le_of_ble_eq_true rfl) (Nat.le_of_ble_eq_true rfl) (c_X3_power (x := 10) (by decide) (by omega) ⟨_, rfl, ?_⟩) rfl
            refine li_7_3 81 dX3_born_80 rfl ?_
            refine v_cSI3 84 dX3_born_81 rfl fvX3_toldPart fsX3_toldPart ml_X3_200 ⟨(Nat.le_of_ble_eq_true rfl), (Nat.le_of_ble_eq_true rfl)⟩ (Nat.le_of_ble_eq_true rfl) (Nat.le_of_ble_eq_true rfl) (c_X3_toldPart hbb h10.1 h10.2 ⟨_, rfl, ?_⟩) rfl
            refine v_iret dX3_born_84 rfl ?_
            rw [bornN, if_neg (by omega)] at hQ
            exact hQ
          · have hap : p < a := by rw [nI_leI (by omega) (by omega)] at h35; omega
            refine v_lconst (v := 0) 39 dX3_born_38 rfl rfl ?_
            refine v_lconst (v := 1) 40 dX3_born_39 rfl rfl ?_
            refine li_7_3 41 dX3_born_40 rfl ?_
            refine v_cSI3 44 dX3_born_41 rfl fvX3_toldPart fsX3_toldPart ml_X3_200 ⟨(Nat.le_of_ble_eq_true rfl), (Nat.le_of_ble_eq_true rfl)⟩ (Nat.le_of_ble_eq_true rfl) (Nat.le_of_ble_eq_true rfl) (c_X3_toldPart (a := 0) (b := 1) (by decide) (by decide) (by decide) ⟨_, rfl, ?_⟩) rfl
            refine v_iret dX3_born_44 rfl ?_
            rw [bornN, if_pos hap] at hQ
            rw [told_01]
            exact hQ
        · refine v_bipush (v := (-2)) 22 dX3_born_20 rfl kb_m2 ?_
          refine v_iret dX3_born_22 rfl ?_
          rw [show bornF p m x t = -2 from ifP_pos (fun kz => nQ_gt (c := 10) (by decide) (i_nle.mp h17) kz.2)] at hQ
          exact hQ
def prR (C m x : Nat) : Nat → Nat
  | 0 => C
  | k + 1 => prR C m x k * (if k < m then x else 10 - x)
theorem prR_lo (C m x : Nat) : ∀ k, k ≤ m → prR C m x k = C * x ^ k
  | 0, _ => by simp [prR]
  | k + 1, h => by rw [prR, prR_lo C m x k (by omega), if_pos (by omega), Nat.mul_assoc, ← Nat.pow_succ]
theorem prR_hi (C m x : Nat) : ∀ k, prR C m x (m + k) = C * x ^ m * (10 - x) ^ k
  | 0 => by rw [Nat.add_zero, prR_lo C m x m (Nat.le_refl _)]; simp
  | k + 1 => by rw [← Nat.add_assoc, prR, prR_hi C m x k, if_neg (by omega), Nat.mul_assoc, ← Nat.pow_succ]
theorem prR_0 (m x : Nat) : ∀ k, prR 0 m x k = 0
  | 0 => rfl
  | k + 1 => by rw [prR, prR_0 m x k, Nat.zero_mul]
def chS (p m k : Nat) : Nat := if p < m then 0 else chR p k
theorem born_x {p m x : Nat} (t : Bool) : bornN p m x t = toldN (prR (chS p m m) m x p) (10 ^ p) t := by
  unfold bornN chS
  by_cases h : p < m
  · rw [if_pos h, if_pos h, prR_0, told_0 (Nat.pow_pos (by decide))]
  · rw [if_neg h, if_neg h]
    have e := prR_hi (chR p m) m x (p - m)
    rw [show m + (p - m) = p by omega] at e
    rw [e]
theorem prR_b {p m x : Nat} (hp : p ≤ 10) (hx : x ≤ 10) : prR (chS p m m) m x p < 2 ^ 63 := by
  unfold chS
  by_cases h : p < m
  · rw [if_pos h, prR_0]; decide
  · rw [if_neg h]
    have e := prR_hi (chR p m) m x (p - m)
    rw [show m + (p - m) = p by omega] at e
    rw [e]
    exact born_b hp hx (by omega)
theorem chS_b {p m k : Nat} (hp : p ≤ 10) (hk : k < 11) : chS p m k < 1000 := by
  unfold chS
  split
  · decide
  · exact ch_b3 p (by omega) k hk
set_option maxHeartbeats 4000000 in
set_option maxRecDepth 100000 in
theorem c_X4_born {w : Wd} {P : PT} {T : TT} {A : AT} {U : Nat → Bool} {K : Nat → PT} {N : NT} {z : Int64} (hS : mS w P T A U K N z) {p : Nat} (hp : p ≤ 10) (he : pairF P P.1.1 = nI p) {m x t : Int32} {Q : Option Value → Wd → Prop} (hQ : Q (some (.int (bornF p m x t))) w) : V mX4_born 0 [some (.ref 1), some (.int m), some (.int x), some (.int t), none, none, none, none, none, none] [] w Q := by
  have b5 := hS.1.2.2.1
  have b4 := hS.1.2.2.2.1
  have h10 := p10_b hp
  have keyC : ∀ a c, a < 10 → c < 11 → Q (some (.int (nI (bornN p a c (decide (¬ t = 0)))))) w → ∀ k, k ≤ p → V mX4_born 151 [some (.ref 1), some (.int (nI a)), some (.int (nI c)), some (.int t), none, some (.int (nI p)), some (.long (lN (prR (chS p a a) a c k))), none, some (.int (nI k)), none] [] w Q := by
    intro a c ha hc hQ
    have hb := prR_b (m := a) hp (show c ≤ 10 by omega)
    have hg0 := Nat.gcd_pos_of_pos_right (prR (chS p a a) a c p) h10.1
    have hg1 := Nat.gcd_le_right (n := 10 ^ p) (prR (chS p a a) a c p) h10.1
    refine up (fun k hk ih => ?_)
    refine li_10_8 153 dX4_born_151 rfl ?_
    refine li_10_5 155 dX4_born_153 rfl ?_
    refine v_icmp_ge 185 158 dX4_born_155 rfl rfl (fun h155 => ?_) (fun h155 => ?_)
    · obtain rfl := ge_eq h155 hk (by omega)
      refine ll_10_6 187 dX4_born_185 rfl ?_
      refine li_10_5 189 dX4_born_187 rfl ?_
      refine v_cSJ1 192 dX4_born_189 rfl fvX4_tenTo fsX4_tenTo ml_X4_182 ⟨(Nat.le_of_ble_eq_true rfl), (Nat.le_of_ble_eq_true rfl)⟩ (Nat.le_of_ble_eq_true rfl) (Nat.le_of_ble_eq_true rfl) (c_X4_tenTo (by omega) ⟨_, rfl, ?_⟩) rfl
      refine v_cSJ2 195 dX4_born_192 rfl fvX4_common fsX4_common ml_X4_202 ⟨(Nat.le_of_ble_eq_true rfl), (Nat.le_of_ble_eq_true rfl)⟩ (Nat.le_of_ble_eq_true rfl) (Nat.le_of_ble_eq_true rfl) (c_X4_common hb (by omega) ⟨_, rfl, ?_⟩) rfl
      refine sl_10_8 rfl 197 dX4_born_195 rfl rfl ?_
      refine li_10_3 198 dX4_born_197 rfl ?_
      refine v_if_eq 206 201 dX4_born_198 rfl rfl (fun h198 => ?_) (fun h198 => ?_)
      · refine li_10_5 208 dX4_born_206 rfl ?_
        refine v_cSJ1 211 dX4_born_208 rfl fvX4_tenTo fsX4_tenTo ml_X4_182 ⟨(Nat.le_of_ble_eq_true rfl), (Nat.le_of_ble_eq_true rfl)⟩ (Nat.le_of_ble_eq_true rfl) (Nat.le_of_ble_eq_true rfl) (c_X4_tenTo (by omega) ⟨_, rfl, ?_⟩) rfl
        refine ll_10_8 213 dX4_born_211 rfl ?_
        refine v_ldiv 214 dX4_born_213 rfl (l_ne0 (by omega) (by omega)) ?_
        rw [pk_lDiv (by omega) hg0 (by omega)]
        refine v_l2i 215 dX4_born_214 rfl ?_
        rw [lN_i]
        refine v_iret dX4_born_215 rfl ?_
        rw [born_x, toldN, h198] at hQ
        simpa using hQ
      · refine ll_10_6 203 dX4_born_201 rfl ?_
        refine v_goto 211 dX4_born_203 rfl ?_
        refine ll_10_8 213 dX4_born_211 rfl ?_
        refine v_ldiv 214 dX4_born_213 rfl (l_ne0 (by omega) (by omega)) ?_
        rw [pk_lDiv (by omega) hg0 (by omega)]
        refine v_l2i 215 dX4_born_214 rfl ?_
        rw [lN_i]
        refine v_iret dX4_born_215 rfl ?_
        rw [born_x, toldN] at hQ
        simpa [h198] using hQ
    · have hlt := ge_lt h155 (by omega) (by omega)
      refine ll_10_6 160 dX4_born_158 rfl ?_
      refine li_10_8 162 dX4_born_160 rfl ?_
      refine li_10_1 163 dX4_born_162 rfl ?_
      refine v_icmp_ge 171 166 dX4_born_163 rfl rfl (fun h163 => ?_) (fun h163 => ?_)
      · have hka : ¬ k < a := by rw [nI_leI (by omega) (by omega)] at h163; omega
        refine v_bipush (v := 10) 173 dX4_born_171 rfl kb_10 ?_
        refine li_10_2 174 dX4_born_173 rfl ?_
        refine v_isub 175 dX4_born_174 rfl ?_
        refine v_i2l 176 dX4_born_175 rfl ?_
        rw [show (10 : Int32) - nI c = nI (10 - c) from pk_sub (a := 10) (by omega), nI_l (by omega)]
        refine v_lmul 177 dX4_born_176 rfl ?_
        rw [lN_mul]
        refine sl_10_6 rfl 179 dX4_born_177 rfl rfl ?_
        refine icn_10_8 rfl 182 dX4_born_179 rfl rfl ?_
        refine v_goto 151 dX4_born_182 rfl ?_
        have e := ih hlt
        rw [show prR (chS p a a) a c (k + 1) = prR (chS p a a) a c k * (10 - c) from by rw [prR, if_neg hka]] at e
        exact e
      · have hka : k < a := by rw [nI_leI (by omega) (by omega)] at h163; omega
        refine li_10_2 167 dX4_born_166 rfl ?_
        refine v_i2l 168 dX4_born_167 rfl ?_
        refine v_goto 176 dX4_born_168 rfl ?_
        rw [nI_l (by omega)]
        refine v_lmul 177 dX4_born_176 rfl ?_
        rw [lN_mul]
        refine sl_10_6 rfl 179 dX4_born_177 rfl rfl ?_
        refine icn_10_8 rfl 182 dX4_born_179 rfl rfl ?_
        refine v_goto 151 dX4_born_182 rfl ?_
        have e := ih hlt
        rw [show prR (chS p a a) a c (k + 1) = prR (chS p a a) a c k * c from by rw [prR, if_pos hka]] at e
        exact e
  have keyB : ∀ a c, a < 10 → c < 11 → Q (some (.int (nI (bornN p a c (decide (¬ t = 0)))))) w → ∀ k, k ≤ a → V mX4_born 113 [some (.ref 1), some (.int (nI a)), some (.int (nI c)), some (.int t), none, some (.int (nI p)), some (.long (lN (chS p a k))), none, some (.int (nI k)), none] [] w Q := by
    intro a c ha hc hQ
    refine up (fun k hk ih => ?_)
    have hcb := chS_b (m := a) (k := k) hp (by omega)
    refine li_10_8 115 dX4_born_113 rfl ?_
    refine li_10_1 116 dX4_born_115 rfl ?_
    refine v_icmp_ge 148 119 dX4_born_116 rfl rfl (fun h116 => ?_) (fun h116 => ?_)
    · obtain rfl := ge_eq h116 hk (by omega)
      refine v_iconst (v := 0) 149 dX4_born_148 rfl ki_0 ?_
      refine si_10_8 rfl 151 dX4_born_149 rfl rfl ?_
      exact keyC k c ha hc hQ 0 (Nat.zero_le _)
    · have hlt := ge_lt h116 (by omega) (by omega)
      refine li_10_1 120 dX4_born_119 rfl ?_
      refine li_10_5 122 dX4_born_120 rfl ?_
      refine v_icmp_gt 148 125 dX4_born_122 rfl rfl (fun h122 => ?_) (fun h122 => ?_)
      · have hpa : p < a := by rw [nI_ltI (by omega) (by omega)] at h122; exact h122
        refine v_iconst (v := 0) 149 dX4_born_148 rfl ki_0 ?_
        refine si_10_8 rfl 151 dX4_born_149 rfl rfl ?_
        have e := keyC a c ha hc hQ 0 (Nat.zero_le _)
        rw [show prR (chS p a a) a c 0 = chS p a k from by unfold chS; rw [if_pos hpa, if_pos hpa]; rfl] at e
        exact e
      · have hpa : ¬ p < a := by rw [nI_ltI (by omega) (by omega)] at h122; exact h122
        have hbm : chS p a k * (p - k) < 2 ^ 63 := Nat.lt_of_le_of_lt (Nat.mul_le_mul (Nat.le_of_lt hcb) (show p - k ≤ 1000 by omega)) (by decide)
        refine ll_10_6 127 dX4_born_125 rfl ?_
        refine li_10_5 129 dX4_born_127 rfl ?_
        refine li_10_8 131 dX4_born_129 rfl ?_
        refine v_isub 132 dX4_born_131 rfl ?_
        refine v_i2l 133 dX4_born_132 rfl ?_
        refine v_lmul 134 dX4_born_133 rfl ?_
        rw [pk_sub (by omega), nI_l (by omega), lN_mul]
        refine li_10_8 136 dX4_born_134 rfl ?_
        refine v_iconst (v := 1) 137 dX4_born_136 rfl ki_1 ?_
        refine v_iadd 138 dX4_born_137 rfl ?_
        refine v_i2l 139 dX4_born_138 rfl ?_
        rw [nI_1, nI_l (by omega)]
        refine v_ldiv 140 dX4_born_139 rfl (l_ne0 (by omega) (by omega)) ?_
        rw [pk_lDiv hbm (by omega) (by omega)]
        refine sl_10_6 rfl 142 dX4_born_140 rfl rfl ?_
        refine icn_10_8 rfl 145 dX4_born_142 rfl rfl ?_
        refine v_goto 113 dX4_born_145 rfl ?_
        have e := ih hlt
        rw [show chS p a (k + 1) = chS p a k * (p - k) / (k + 1) from by unfold chS; rw [if_neg hpa, if_neg hpa]; rfl] at e
        exact e
  have keyA : ∀ a c, a < 10 → c < 11 → Q (some (.int (nI (bornN p a c (decide (¬ t = 0)))))) w → ∀ i, i ≤ P.1.1 → V mX4_born 40 [some (.ref 1), some (.int (nI a)), some (.int (nI c)), some (.int t), some (.int (aliveP P)), some (.int (pairF P i)), some (.int (nI i)), none, none, none] [] w Q := by
    intro a c ha hc hQ
    refine up (fun i hi ih => ?_)
    refine li_10_6 42 dX4_born_40 rfl ?_
    refine la_10_0 43 dX4_born_42 rfl ?_
    refine vgm_stamps hS.1 hb0 rfl 46 dX4_born_43 rfl ?_
    refine v_icmp_ge 97 49 dX4_born_46 rfl rfl (fun h46 => ?_) (fun h46 => ?_)
    · obtain rfl := ge_eq h46 hi (by omega)
      rw [he]
      refine li_10_1 98 dX4_born_97 rfl ?_
      refine li_10_5 100 dX4_born_98 rfl ?_
      refine v_icmp_le 107 103 dX4_born_100 rfl rfl (fun h100 => ?_) (fun h100 => ?_)
      · have hap : ¬ p < a := by rw [nI_leI (by omega) (by omega)] at h100; omega
        refine v_lconst (v := 1) 108 dX4_born_107 rfl rfl ?_
        refine sl_10_6 rfl 110 dX4_born_108 rfl rfl ?_
        refine v_iconst (v := 0) 111 dX4_born_110 rfl ki_0 ?_
        refine si_10_8 rfl 113 dX4_born_111 rfl rfl ?_
        refine fg_10_4 ?_
        have e := keyB a c ha hc hQ 0 (Nat.zero_le _)
        rw [show chS p a 0 = 1 from by unfold chS; rw [if_neg hap]; rfl] at e
        exact e
      · have hap : p < a := by rw [nI_leI (by omega) (by omega)] at h100; omega
        refine v_lconst (v := 0) 104 dX4_born_103 rfl rfl ?_
        refine v_goto 108 dX4_born_104 rfl ?_
        refine sl_10_6 rfl 110 dX4_born_108 rfl rfl ?_
        refine v_iconst (v := 0) 111 dX4_born_110 rfl ki_0 ?_
        refine si_10_8 rfl 113 dX4_born_111 rfl rfl ?_
        refine fg_10_4 ?_
        have e := keyB a c ha hc hQ 0 (Nat.zero_le _)
        rw [show chS p a 0 = 0 from by unfold chS; rw [if_pos hap]] at e
        exact e
    · have hlt := ge_lt h46 (by omega) (by omega)
      refine li_10_5 51 dX4_born_49 rfl ?_
      refine li_10_4 53 dX4_born_51 rfl ?_
      refine li_10_6 55 dX4_born_53 rfl ?_
      refine v_cSI2 58 dX4_born_55 rfl fvX4_has fsX4_has ml_X4_71 ⟨(Nat.le_of_ble_eq_true rfl), (Nat.le_of_ble_eq_true rfl)⟩ (Nat.le_of_ble_eq_true rfl) (Nat.le_of_ble_eq_true rfl) (c_X4_has (fun q55 => ⟨_, rfl, ?_⟩) (fun q55 => ⟨_, rfl, ?_⟩)) rfl
      · refine v_if_eq 87 61 dX4_born_58 rfl rfl (fun h => absurd h (by decide)) (fun _ => ?_)
        refine la_10_0 62 dX4_born_61 rfl ?_
        refine vg_X4_16 rfl 65 dX4_born_62 rfl ?_
        refine v_bipush (v := 10) 67 dX4_born_65 rfl kb_10 ?_
        refine li_10_6 69 dX4_born_67 rfl ?_
        refine v_iadd 70 dX4_born_69 rfl ?_
        refine vmn_3 hS.1 hb0 _ 71 dX4_born_70 rfl (ixC 10 _) (by omega) ?_
        refine li_10_4 73 dX4_born_71 rfl ?_
        refine v_iand 74 dX4_born_73 rfl ?_
        refine v_iconst (v := 1) 75 dX4_born_74 rfl ki_1 ?_
        refine li_10_6 77 dX4_born_75 rfl ?_
        refine v_ishl 78 dX4_born_77 rfl ?_
        refine v_iconst (v := 1) 79 dX4_born_78 rfl ki_1 ?_
        refine v_isub 80 dX4_born_79 rfl ?_
        refine v_iand 81 dX4_born_80 rfl ?_
        refine v_cSI1 84 dX4_born_81 rfl fvX4_ones fsX4_ones ml_X4_147 ⟨(Nat.le_of_ble_eq_true rfl), (Nat.le_of_ble_eq_true rfl)⟩ (Nat.le_of_ble_eq_true rfl) (Nat.le_of_ble_eq_true rfl) (c_X4_ones ⟨_, rfl, ?_⟩) rfl
        refine v_goto 88 dX4_born_84 rfl ?_
        refine v_iadd 89 dX4_born_88 rfl ?_
        refine si_10_5 rfl 91 dX4_born_89 rfl rfl ?_
        refine icn_10_6 rfl 94 dX4_born_91 rfl rfl ?_
        refine v_goto 40 dX4_born_94 rfl ?_
        have e := ih hlt
        rw [show pairF P (i + 1) = pairF P i + onI (P.2 3 i &&& aliveP P &&& (1 <<< (nI i &&& 31) - 1)) 5 from by show _ + (if bit (aliveP P) i then _ else _) = _; rw [q55]; rfl] at e
        exact e
      · refine v_if_eq 87 61 dX4_born_58 rfl rfl (fun _ => ?_) (fun h => absurd rfl h)
        refine v_iconst (v := 0) 88 dX4_born_87 rfl ki_0 ?_
        refine v_iadd 89 dX4_born_88 rfl ?_
        refine si_10_5 rfl 91 dX4_born_89 rfl rfl ?_
        refine icn_10_6 rfl 94 dX4_born_91 rfl rfl ?_
        refine v_goto 40 dX4_born_94 rfl ?_
        have e := ih hlt
        rw [show pairF P (i + 1) = pairF P i + 0 from by show _ + (if bit (aliveP P) i then _ else _) = _; rw [q55]; rfl] at e
        exact e
  refine li_10_1 1 dX4_born_0 rfl ?_
  refine v_i2l 2 dX4_born_1 rfl ?_
  refine v_lconst (v := 0) 3 dX4_born_2 rfl rfl ?_
  refine v_ldc2 6 dX4_born_3 rfl kl_X4_69 ?_
  refine v_cSI3 9 dX4_born_6 rfl fvX4_in fsX4_in ml_X4_56 ⟨(Nat.le_of_ble_eq_true rfl), (Nat.le_of_ble_eq_true rfl)⟩ (Nat.le_of_ble_eq_true rfl) (Nat.le_of_ble_eq_true rfl) (c_X4_in (fun q6 => ⟨_, rfl, ?_⟩) (fun q6 => ⟨_, rfl, ?_⟩)) rfl
  · refine v_if_eq 24 12 dX4_born_9 rfl rfl (fun h => absurd h (by decide)) (fun _ => ?_)
    refine li_10_2 13 dX4_born_12 rfl ?_
    refine v_i2l 14 dX4_born_13 rfl ?_
    refine v_lconst (v := 0) 15 dX4_born_14 rfl rfl ?_
    refine v_ldc2 18 dX4_born_15 rfl kl_X4_178 ?_
    refine v_cSI3 21 dX4_born_18 rfl fvX4_in fsX4_in ml_X4_56 ⟨(Nat.le_of_ble_eq_true rfl), (Nat.le_of_ble_eq_true rfl)⟩ (Nat.le_of_ble_eq_true rfl) (Nat.le_of_ble_eq_true rfl) (c_X4_in (fun q18 => ⟨_, rfl, ?_⟩) (fun q18 => ⟨_, rfl, ?_⟩)) rfl
    · refine v_if_ne 27 24 dX4_born_21 rfl rfl (fun _ => ?_) (fun h => absurd h (by decide))
      refine la_10_0 28 dX4_born_27 rfl ?_
      refine v_iconst (v := 0) 29 dX4_born_28 rfl ki_0 ?_
      refine v_cVI1 32 dX4_born_29 rfl fvX4_living fiX4_living ml_X4_115 (seX4) rfl ⟨(Nat.le_of_ble_eq_true rfl), (Nat.le_of_ble_eq_true rfl)⟩ (Nat.le_of_ble_eq_true rfl) (Nat.le_of_ble_eq_true rfl) (c_X4_living hS.1 hb0 ⟨_, rfl, ?_⟩) rfl
      refine si_10_4 rfl 34 dX4_born_32 rfl rfl ?_
      refine v_iconst (v := 0) 35 dX4_born_34 rfl ki_0 ?_
      refine si_10_5 rfl 37 dX4_born_35 rfl rfl ?_
      refine v_iconst (v := 0) 38 dX4_born_37 rfl ki_0 ?_
      refine si_10_6 rfl 40 dX4_born_38 rfl rfl ?_
      obtain ⟨a, ha, rfl⟩ := inQ_lL (c := 9) (by decide) rfl q6
      obtain ⟨c, hc, rfl⟩ := inQ_lL (c := 10) (by decide) rfl q18
      exact keyA a c ha hc (by rw [show bornF p (nI a) (nI c) t = _ from ifP_neg (fun kz => kz ⟨⟨a, ha, rfl⟩, ⟨c, hc, rfl⟩⟩), kk_nI (by omega), kk_nI (by omega)] at hQ; exact hQ) 0 (Nat.zero_le _)
    · refine v_if_ne 27 24 dX4_born_21 rfl rfl (fun h => absurd rfl h) (fun _ => ?_)
      refine v_bipush (v := (-2)) 26 dX4_born_24 rfl kb_m2 ?_
      refine v_iret dX4_born_26 rfl ?_
      rw [show bornF p m x t = -2 from ifP_pos (fun kz => nQ_lL (c := 10) (by decide) rfl q18 kz.2)] at hQ
      exact hQ
  · refine v_if_eq 24 12 dX4_born_9 rfl rfl (fun _ => ?_) (fun h => absurd rfl h)
    refine v_bipush (v := (-2)) 26 dX4_born_24 rfl kb_m2 ?_
    refine v_iret dX4_born_26 rfl ?_
    rw [show bornF p m x t = -2 from ifP_pos (fun kz => nQ_lL (c := 9) (by decide) rfl q6 kz.1)] at hQ
    exact hQ

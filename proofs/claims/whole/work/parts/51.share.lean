def suN (f : Nat → Nat) : Nat → Nat
  | 0 => 0
  | n + 1 => suN f n + f n
theorem suB_N {g : Nat → Int32} {f : Nat → Nat} : ∀ {n : Nat}, (∀ i, i < n → g i = nI (f i)) → suB g n = nI (suN f n)
  | 0, _ => rfl
  | n + 1, h => by rw [suB, suN, suB_N (fun i hi => h i (by omega)), h n (by omega), nI_add]
theorem suN_le {f g : Nat → Nat} : ∀ {n : Nat}, (∀ i, i < n → f i ≤ g i) → suN f n ≤ suN g n
  | 0, _ => Nat.le_refl _
  | n + 1, h => Nat.add_le_add (suN_le (fun i hi => h i (by omega))) (h n (by omega))
theorem suN_c (c : Nat) : ∀ n, suN (fun _ => c) n = n * c
  | 0 => by simp [suN]
  | n + 1 => by rw [suN, suN_c c n, Nat.succ_mul]
theorem min9_N {a : Nat} (h : a < 2 ^ 31) : ∃ r, r ≤ 9 ∧ min9 (nI a) = nI r := by
  unfold min9
  by_cases q : nI a < 9
  · rw [if_pos q]
    have : a < 9 := (nI_ltI (b := 9) h (by decide)).mp q
    exact ⟨a, by omega, rfl⟩
  · rw [if_neg q]; exact ⟨9, by omega, rfl⟩
theorem rate_N {P : PT} (hag : ∀ s, s < P.1.1 → ∃ a, a < 100000 ∧ P.2 0 s = nI a) {s : Nat} (hs : s < P.1.1) : ∃ r, r ≤ 9 ∧ rateP P s = nI r := by
  obtain ⟨a, ha, e⟩ := hag s hs
  have m (d : Nat) (h0 : 0 < d) (hd : d < 2 ^ 31) : ∃ r, r ≤ 9 ∧ min9 (2 + nI a / nI d) = nI r := by
    rw [pk_div (by omega) h0 hd, show (2 : Int32) = nI 2 from rfl, nI_add]
    exact min9_N (by have := Nat.div_le_self a d; omega)
  unfold rateP rateF
  rw [e]
  by_cases k0 : P.2 2 s = 0
  · rw [if_pos k0]; exact m 20 (by decide) (by decide)
  · rw [if_neg k0]
    by_cases k1 : P.2 2 s = 1
    · rw [if_pos k1]; exact ⟨1, by decide, rfl⟩
    · rw [if_neg k1]
      by_cases k2 : P.2 2 s = 2
      · rw [if_pos k2]; exact m 10 (by decide) (by decide)
      · rw [if_neg k2]; exact ⟨0, by decide, rfl⟩
theorem good_N {P : PT} (hag : ∀ s, s < P.1.1 → ∃ a, a < 100000 ∧ P.2 0 s = nI a) {x y : Int32} (hxy : ∀ s, s < P.1.1 → bit x s = true → bit y s = true) (h5 : P.1.1 ≤ 5) : goodP P x ≤ goodP P y := by
  have hr : ∀ s, s < P.1.1 → ∃ r, r ≤ 9 ∧ rateP P s = nI r := fun s hs => rate_N hag hs
  have ex : ∀ v : Int32, goodP P v = nI (suN (fun s => if bit v s && alP P s then kk (rateP P s) else 0) P.1.1) := fun v => suB_N (fun i hi => by
    obtain ⟨r, h9, e⟩ := hr i hi
    by_cases c : (bit v i && alP P i) = true
    · rw [if_pos c, if_pos c, e, kk_nI (by omega)]
    · rw [if_neg c, if_neg c]; rfl)
  have bd : ∀ v : Int32, suN (fun s => if bit v s && alP P s then kk (rateP P s) else 0) P.1.1 ≤ 45 := fun v => by
    have h1 : suN (fun s => if bit v s && alP P s then kk (rateP P s) else 0) P.1.1 ≤ suN (fun _ => 9) P.1.1 := suN_le (fun i hi => by
      obtain ⟨r, h9, e⟩ := hr i hi
      rw [e, kk_nI (by omega)]
      split <;> omega)
    rw [suN_c] at h1
    omega
  rw [ex x, ex y, nI_leI (by have := bd x; omega) (by have := bd y; omega)]
  refine suN_le (fun i hi => ?_)
  by_cases c : bit x i = true
  · rw [c, hxy i hi c]; exact Nat.le_refl _
  · rw [Bool.not_eq_true] at c; rw [c]; simp
def payN (P : PT) (x : Int32) : Nat := suN (fun s => if decide (P.2 7 s = 0) && decide (P.2 6 s ≤ goodP P x) then 1 else 0) P.1.2.1
theorem payP_N {P : PT} {x : Int32} : payP P x = nI (payN P x) := suB_N (fun i hi => by split <;> rfl)
theorem payN_4 {P : PT} {x : Int32} (h4 : P.1.2.1 ≤ 4) : payN P x ≤ 4 := by
  have h1 : payN P x ≤ suN (fun _ => 1) P.1.2.1 := suN_le (fun i hi => by split <;> omega)
  rw [suN_c] at h1
  omega
theorem payN_le {P : PT} (hag : ∀ s, s < P.1.1 → ∃ a, a < 100000 ∧ P.2 0 s = nI a) {x y : Int32} (hxy : ∀ s, s < P.1.1 → bit x s = true → bit y s = true) (h5 : P.1.1 ≤ 5) : payN P x ≤ payN P y := by
  have hg := good_N hag hxy h5
  refine suN_le (fun i hi => ?_)
  by_cases c : P.2 6 i ≤ goodP P x
  · have c2 : P.2 6 i ≤ goodP P y := by rw [i_le] at *; omega
    rw [decide_eq_true c, decide_eq_true c2]; exact Nat.le_refl _
  · rw [decide_eq_false c]; simp
theorem bit_N : ∀ x, x < 32 → ∀ t, t < 5 → bit (nI x) t = x.testBit t := by decide +kernel
theorem own_z : ∀ x, x < 32 → ∀ k, k < 5 → (nI x &&& 1 <<< (nI k &&& 31) = 0 ↔ bit (nI x) k = false) := by decide +kernel
theorem or_lt : ∀ x, x < 32 → ∀ k, k < 5 → x ||| 2 ^ k < 32 := by decide +kernel
theorem pc_un0 : ∀ n, n < 6 → ∀ k, k < 5 → ∀ x, x < 32 → (k < n ∧ x < 2 ^ n ∧ bit (nI x) k = false) → pcN x + 1 ≤ n := by decide +kernel
theorem pc_un (n : Nat) (hn : n < 6) (k : Nat) (hk : k < 5) (x : Nat) (hx : x < 32) (h1 : k < n) (h2 : x < 2 ^ n) (h3 : bit (nI x) k = false) : pcN x + 1 ≤ n := pc_un0 n hn k hk x hx ⟨h1, h2, h3⟩
theorem fac_b : ∀ n, n < 6 → 0 < facN n ∧ facN n ≤ 120 := by decide +kernel
def shT (P : PT) (k x : Nat) : Nat := if bit (nI x) k then 0 else facN (pcN x) * facN (P.1.1 - 1 - pcN x) * (payN P (nI (x ||| 2 ^ k)) - payN P (nI x))
def shS (P : PT) (k x : Nat) : Nat := suN (shT P k) x
theorem shS_b {P : PT} (h5 : P.1.1 ≤ 5) (h4 : P.1.2.1 ≤ 4) {k x : Nat} (hx : x ≤ 32) : shS P k x < 2 ^ 22 := by
  have h1 : shS P k x ≤ suN (fun _ => 57600) x := suN_le (fun i hi => by
    unfold shT
    split
    · exact Nat.zero_le _
    · have a1 := (fac_b (pcN i) (by have := (pc_bc i (by omega)).2; omega)).2
      have a2 := (fac_b (P.1.1 - 1 - pcN i) (by omega)).2
      have a3 := payN_4 (x := nI (i ||| 2 ^ k)) h4
      exact Nat.le_trans (Nat.mul_le_mul (Nat.mul_le_mul a1 a2) (show _ ≤ 4 by omega)) (by decide))
  rw [suN_c] at h1
  have : x * 57600 ≤ 32 * 57600 := Nat.mul_le_mul_right _ hx
  omega
theorem p2_b : ∀ n, n < 6 → 2 ^ n ≤ 32 ∧ 0 < 2 ^ n := by decide
theorem sh_or {x k : Nat} (hk : k < 31) : nI x ||| 1 <<< (nI k &&& 31) = nI (x ||| 2 ^ k) := by rw [sh_pow k hk, fa_or]
theorem sh_d {P : PT} (hag : ∀ s, s < P.1.1 → ∃ a, a < 100000 ∧ P.2 0 s = nI a) (h5 : P.1.1 ≤ 5) {x k : Nat} (hx : x < 32) (hk : k < P.1.1) : payP P (nI (x ||| 2 ^ k)) - payP P (nI x) = nI (payN P (nI (x ||| 2 ^ k)) - payN P (nI x)) := by
  have hkk : k < 5 := by omega
  rw [payP_N, payP_N, pk_sub (payN_le hag (fun s hs q => by
    have hs5 : s < 5 := by omega
    rw [bit_N x hx s hs5] at q
    rw [bit_N _ (or_lt x hx k hkk) s hs5, Nat.testBit_or, q, Bool.true_or]) h5)]
noncomputable def shareF (P : PT) (i t : Int32) : Int32 := ifP (¬ inQ i P.1.1) (-1) (nI (toldN (shS P (kk i) (2 ^ P.1.1)) (facN P.1.1) (decide (¬ t = 0))))

set_option maxHeartbeats 4000000 in
set_option maxRecDepth 100000 in
theorem c_X3_share {w : Wd} {P : PT} {T : TT} {A : AT} {U : Nat → Bool} {K : Nat → PT} {N : NT} {z : Int64} (hS : cS w P T A U K N z) (hag : ∀ s, s < P.1.1 → ∃ a, a < 100000 ∧ P.2 0 s = nI a) {i t : Int32} {Q : Option Value → Wd → Prop} (hQ : Q (some (.int (shareF P i t))) w) : V mX3_share 0 [some (.ref 0), some (.int i), some (.int t), none, none, none, none, none, none, none] [] w Q := by
  have b5 := hS.1.2.2.2.2.1
  have b4 := hS.1.2.2.2.2.2.1
  have hp := p2_b P.1.1 (by omega)
  have key : ∀ k, k < P.1.1 → Q (some (.int (nI (toldN (shS P k (2 ^ P.1.1)) (facN P.1.1) (decide (¬ t = 0)))))) w → ∀ x, x ≤ 2 ^ P.1.1 → V mX3_share 23 [some (.ref 0), some (.int (nI k)), some (.int t), some (.int (1 <<< (nI k &&& 31))), some (.long (lN (shS P k x))), none, some (.int (nI x)), none, none, none] [] w Q := by
    intro k hk hQ
    have hk5 : k < 5 := by omega
    refine up (fun x hx ih => ?_)
    refine li_10_6 25 dX3_share_23 rfl ?_
    refine la_10_0 26 dX3_share_25 rfl ?_
    refine vg_X3_23 rfl 29 dX3_share_26 rfl ?_
    refine v_cVI0 32 dX3_share_29 rfl fvX1_allBits fiX1_allBits ml_X3_169 (seX1 hb0) rfl ⟨(Nat.le_of_ble_eq_true rfl), (Nat.le_of_ble_eq_true rfl)⟩ (Nat.le_of_ble_eq_true rfl) (Nat.le_of_ble_eq_true rfl) (c_X1_allBits hb0 hS.1 ⟨_, rfl, ?_⟩) rfl
    rw [sh_pow P.1.1 (by omega), show nI (2 ^ P.1.1) - 1 = nI (2 ^ P.1.1 - 1) from pk_sub (b := 1) hp.2]
    refine v_icmp_gt 108 35 dX3_share_32 rfl rfl (fun h32 => ?_) (fun h32 => ?_)
    · have ex : x = 2 ^ P.1.1 := by rw [nI_ltI (by omega) (by omega)] at h32; omega
      subst ex
      refine ll_10_4 110 dX3_share_108 rfl ?_
      refine la_10_0 111 dX3_share_110 rfl ?_
      refine vg_X3_23 rfl 114 dX3_share_111 rfl ?_
      refine vgq_X3_73 hb0 hS.1 rfl 117 dX3_share_114 rfl ?_
      refine v_cSJ1 120 dX3_share_117 rfl fvX3_factorial fsX3_factorial ml_X3_193 ⟨(Nat.le_of_ble_eq_true rfl), (Nat.le_of_ble_eq_true rfl)⟩ (Nat.le_of_ble_eq_true rfl) (Nat.le_of_ble_eq_true rfl) (c_X3_factorial (by omega) ⟨_, rfl, ?_⟩) rfl
      refine li_10_2 121 dX3_share_120 rfl ?_
      refine v_cSI3 124 dX3_share_121 rfl fvX3_toldPart fsX3_toldPart ml_X3_200 ⟨(Nat.le_of_ble_eq_true rfl), (Nat.le_of_ble_eq_true rfl)⟩ (Nat.le_of_ble_eq_true rfl) (Nat.le_of_ble_eq_true rfl) (c_X3_toldPart (by have := shS_b (k := k) b5 b4 hp.1; omega) (fac_b P.1.1 (by omega)).1 (by have := (fac_b P.1.1 (by omega)).2; omega) ⟨_, rfl, ?_⟩) rfl
      refine v_iret dX3_share_124 rfl ?_
      exact hQ
    · have hlt : x < 2 ^ P.1.1 := by rw [nI_ltI (by omega) (by omega)] at h32; omega
      have hx32 : x < 32 := by omega
      have epc := pc_bc x hx32
      refine li_10_6 37 dX3_share_35 rfl ?_
      refine li_10_3 38 dX3_share_37 rfl ?_
      refine v_iand 39 dX3_share_38 rfl ?_
      refine v_if_ne 102 42 dX3_share_39 rfl rfl (fun h39 => ?_) (fun h39 => ?_)
      · have g39 : bit (nI x) k = true := by
          cases hh : bit (nI x) k with
          | true => rfl
          | false => exact absurd ((own_z x hx32 k hk5).mpr hh) h39
        have e1 : shS P k (x + 1) = shS P k x := by show suN _ _ + shT P k x = _; rw [shT, g39]; rfl
        refine icn_10_6 rfl 105 dX3_share_102 rfl rfl ?_
        refine v_goto 23 dX3_share_105 rfl ?_
        have e := ih hlt
        rw [e1] at e
        exact e
      · have g39 : bit (nI x) k = false := (own_z x hx32 k hk5).mp h39
        have hun := pc_un P.1.1 (by omega) k hk5 x hx32 hk hlt g39
        have e1 : shS P k (x + 1) = shS P k x + facN (pcN x) * facN (P.1.1 - 1 - pcN x) * (payN P (nI (x ||| 2 ^ k)) - payN P (nI x)) := by show suN _ _ + shT P k x = _; rw [shT, g39]; rfl
        have hp4 := payN_4 (P := P) (x := nI (x ||| 2 ^ k)) b4
        refine li_10_6 44 dX3_share_42 rfl ?_
        refine v_cSI1 47 dX3_share_44 rfl fvJ6_bitCount_0f7a4 fsJ6_bitCount_0f7a4 ml_X3_136 ⟨(Nat.le_of_ble_eq_true rfl), (Nat.le_of_ble_eq_true rfl)⟩ (Nat.le_of_ble_eq_true rfl) (Nat.le_of_ble_eq_true rfl) (c_bitCount ⟨_, rfl, ?_⟩) rfl
        rw [epc.1]
        refine si_10_7 rfl 49 dX3_share_47 rfl rfl ?_
        refine li_10_7 51 dX3_share_49 rfl ?_
        refine v_cSJ1 54 dX3_share_51 rfl fvX3_factorial fsX3_factorial ml_X3_193 ⟨(Nat.le_of_ble_eq_true rfl), (Nat.le_of_ble_eq_true rfl)⟩ (Nat.le_of_ble_eq_true rfl) (Nat.le_of_ble_eq_true rfl) (c_X3_factorial (by omega) ⟨_, rfl, ?_⟩) rfl
        refine la_10_0 55 dX3_share_54 rfl ?_
        refine vg_X3_23 rfl 58 dX3_share_55 rfl ?_
        refine vgq_X3_73 hb0 hS.1 rfl 61 dX3_share_58 rfl ?_
        refine v_iconst (v := 1) 62 dX3_share_61 rfl ki_1 ?_
        refine v_isub 63 dX3_share_62 rfl ?_
        refine li_10_7 65 dX3_share_63 rfl ?_
        refine v_isub 66 dX3_share_65 rfl ?_
        rw [show nI P.1.1 - 1 = nI (P.1.1 - 1) from pk_sub (b := 1) (by omega), pk_sub (by omega)]
        refine v_cSJ1 69 dX3_share_66 rfl fvX3_factorial fsX3_factorial ml_X3_193 ⟨(Nat.le_of_ble_eq_true rfl), (Nat.le_of_ble_eq_true rfl)⟩ (Nat.le_of_ble_eq_true rfl) (Nat.le_of_ble_eq_true rfl) (c_X3_factorial (by omega) ⟨_, rfl, ?_⟩) rfl
        refine v_lmul 70 dX3_share_69 rfl ?_
        rw [lN_mul]
        refine sl_10_8 rfl 72 dX3_share_70 rfl rfl ?_
        refine ll_10_4 74 dX3_share_72 rfl ?_
        refine ll_10_8 76 dX3_share_74 rfl ?_
        refine la_10_0 77 dX3_share_76 rfl ?_
        refine vg_X3_23 rfl 80 dX3_share_77 rfl ?_
        refine li_10_6 82 dX3_share_80 rfl ?_
        refine li_10_3 83 dX3_share_82 rfl ?_
        refine v_ior 84 dX3_share_83 rfl ?_
        rw [sh_or (by omega)]
        refine v_cVI1 87 dX3_share_84 rfl fvX1_affordable fiX1_affordable ml_X3_197 (seX1 hb0) rfl ⟨(Nat.le_of_ble_eq_true rfl), (Nat.le_of_ble_eq_true rfl)⟩ (Nat.le_of_ble_eq_true rfl) (Nat.le_of_ble_eq_true rfl) (c_X1_affordable hb0 hS.1 ⟨_, rfl, ?_⟩) rfl
        refine la_10_0 88 dX3_share_87 rfl ?_
        refine vg_X3_23 rfl 91 dX3_share_88 rfl ?_
        refine li_10_6 93 dX3_share_91 rfl ?_
        refine v_cVI1 96 dX3_share_93 rfl fvX1_affordable fiX1_affordable ml_X3_197 (seX1 hb0) rfl ⟨(Nat.le_of_ble_eq_true rfl), (Nat.le_of_ble_eq_true rfl)⟩ (Nat.le_of_ble_eq_true rfl) (Nat.le_of_ble_eq_true rfl) (c_X1_affordable hb0 hS.1 ⟨_, rfl, ?_⟩) rfl
        refine v_isub 97 dX3_share_96 rfl ?_
        rw [sh_d hag b5 hx32 hk]
        refine v_i2l 98 dX3_share_97 rfl ?_
        refine v_lmul 99 dX3_share_98 rfl ?_
        refine v_ladd 100 dX3_share_99 rfl ?_
        rw [nI_l (by omega), lN_mul, lN_add]
        refine sl_10_4 rfl 102 dX3_share_100 rfl rfl ?_
        refine icn_10_6 rfl 105 dX3_share_102 rfl rfl ?_
        refine v_goto 23 dX3_share_105 rfl ?_
        refine fg_10_7 ?_
        refine fg_10_8 ?_
        have e := ih hlt
        rw [e1] at e
        exact e
  refine la_10_0 1 dX3_share_0 rfl ?_
  refine vg_X3_23 rfl 4 dX3_share_1 rfl ?_
  refine li_10_1 5 dX3_share_4 rfl ?_
  refine v_cVI1 8 dX3_share_5 rfl fvX1_hasStamp fiX1_hasStamp ml_X3_79 (seX1 hb0) rfl ⟨(Nat.le_of_ble_eq_true rfl), (Nat.le_of_ble_eq_true rfl)⟩ (Nat.le_of_ble_eq_true rfl) (Nat.le_of_ble_eq_true rfl) (c_X1_hasStamp hb0 hS.1 (fun q5 => ⟨_, rfl, ?_⟩) (fun q5 => ⟨_, rfl, ?_⟩)) rfl
  · obtain ⟨k, hk, rfl⟩ := q5
    refine v_if_ne 13 11 dX3_share_8 rfl rfl (fun _ => ?_) (fun h => absurd h (by decide))
    refine v_iconst (v := 1) 14 dX3_share_13 rfl ki_1 ?_
    refine li_10_1 15 dX3_share_14 rfl ?_
    refine v_ishl 16 dX3_share_15 rfl ?_
    refine si_10_3 rfl 17 dX3_share_16 rfl rfl ?_
    refine v_lconst (v := 0) 18 dX3_share_17 rfl rfl ?_
    refine sl_10_4 rfl 20 dX3_share_18 rfl rfl ?_
    refine v_iconst (v := 0) 21 dX3_share_20 rfl ki_0 ?_
    refine si_10_6 rfl 23 dX3_share_21 rfl rfl ?_
    exact key k hk (by rw [show shareF P (nI k) t = _ from ifP_neg (fun kz => kz ⟨k, hk, rfl⟩), kk_nI (by omega)] at hQ; exact hQ) 0 (Nat.zero_le _)
  · refine v_if_ne 13 11 dX3_share_8 rfl rfl (fun h => absurd rfl h) (fun _ => ?_)
    refine v_iconst (v := (-1)) 12 dX3_share_11 rfl ki_m1 ?_
    refine v_iret dX3_share_12 rfl ?_
    rw [show shareF P i t = -1 from ifP_pos q5] at hQ
    exact hQ
set_option maxHeartbeats 4000000 in
set_option maxRecDepth 100000 in
theorem c_X4_share {w : Wd} {P : PT} {T : TT} {A : AT} {U : Nat → Bool} {K : Nat → PT} {N : NT} {z : Int64} (hS : mS w P T A U K N z) (hkd : ∀ s, s < P.1.1 → P.2 2 s = 0 ∨ P.2 2 s = 1 ∨ P.2 2 s = 2 ∨ P.2 2 s = 3) (hag : ∀ s, s < P.1.1 → ∃ a, a < 100000 ∧ P.2 0 s = nI a) {i t : Int32} {Q : Option Value → Wd → Prop} (hQ : Q (some (.int (shareF P i t))) w) : V mX4_share 0 [some (.ref 1), some (.int i), some (.int t), none, none, none] [] w Q := by
  have b5 := hS.1.2.2.1
  have b4 := hS.1.2.2.2.1
  have hp := p2_b P.1.1 (by omega)
  have hf := fac_b P.1.1 (by omega)
  have key : ∀ k, k < P.1.1 → Q (some (.int (nI (toldN (shS P k (2 ^ P.1.1)) (facN P.1.1) (decide (¬ t = 0)))))) w → ∀ x, x ≤ 2 ^ P.1.1 → V mX4_share 15 [some (.ref 1), some (.int (nI k)), some (.int t), some (.int (nI (shS P k x))), some (.int (nI x)), none] [] w Q := by
    intro k hk hQ
    have hk5 : k < 5 := by omega
    refine up (fun x hx ih => ?_)
    have hsb := shS_b (k := k) (x := x) b5 b4 (by omega)
    refine li_6_4 17 dX4_share_15 rfl ?_
    refine v_iconst (v := 1) 18 dX4_share_17 rfl ki_1 ?_
    refine la_6_0 19 dX4_share_18 rfl ?_
    refine vgm_stamps hS.1 hb0 rfl 22 dX4_share_19 rfl ?_
    refine v_ishl 23 dX4_share_22 rfl ?_
    rw [sh_pow P.1.1 (by omega)]
    refine v_icmp_ge 90 26 dX4_share_23 rfl rfl (fun h23 => ?_) (fun h23 => ?_)
    · have ex : x = 2 ^ P.1.1 := by rw [nI_leI (by omega) (by omega)] at h23; omega
      subst ex
      refine li_6_3 91 dX4_share_90 rfl ?_
      refine v_i2l 92 dX4_share_91 rfl ?_
      rw [nI_l (by omega)]
      refine la_6_0 93 dX4_share_92 rfl ?_
      refine vgm_stamps hS.1 hb0 rfl 96 dX4_share_93 rfl ?_
      refine v_cSI1 99 dX4_share_96 rfl fvX4_factorial fsX4_factorial ml_X4_196 ⟨(Nat.le_of_ble_eq_true rfl), (Nat.le_of_ble_eq_true rfl)⟩ (Nat.le_of_ble_eq_true rfl) (Nat.le_of_ble_eq_true rfl) (c_X4_factorial (by omega) ⟨_, rfl, ?_⟩) rfl
      refine v_i2l 100 dX4_share_99 rfl ?_
      rw [nI_l (by omega)]
      refine v_cSJ2 103 dX4_share_100 rfl fvX4_common fsX4_common ml_X4_202 ⟨(Nat.le_of_ble_eq_true rfl), (Nat.le_of_ble_eq_true rfl)⟩ (Nat.le_of_ble_eq_true rfl) (Nat.le_of_ble_eq_true rfl) (c_X4_common (by omega) (by omega) ⟨_, rfl, ?_⟩) rfl
      refine sl_6_4 rfl 105 dX4_share_103 rfl rfl ?_
      refine li_6_2 106 dX4_share_105 rfl ?_
      refine v_if_eq 113 109 dX4_share_106 rfl rfl (fun h106 => ?_) (fun h106 => ?_)
      · refine la_6_0 114 dX4_share_113 rfl ?_
        refine vgm_stamps hS.1 hb0 rfl 117 dX4_share_114 rfl ?_
        refine v_cSI1 120 dX4_share_117 rfl fvX4_factorial fsX4_factorial ml_X4_196 ⟨(Nat.le_of_ble_eq_true rfl), (Nat.le_of_ble_eq_true rfl)⟩ (Nat.le_of_ble_eq_true rfl) (Nat.le_of_ble_eq_true rfl) (c_X4_factorial (by omega) ⟨_, rfl, ?_⟩) rfl
        refine v_i2l 121 dX4_share_120 rfl ?_
        rw [nI_l (by omega)]
        refine ll_6_4 123 dX4_share_121 rfl ?_
        refine v_ldiv 124 dX4_share_123 rfl (l_ne0 (by have := Nat.gcd_le_right (n := facN P.1.1) (shS P k (2 ^ P.1.1)) hf.1; omega) (by have := Nat.gcd_pos_of_pos_right (shS P k (2 ^ P.1.1)) hf.1; omega)) ?_
        rw [pk_lDiv (by omega) (Nat.gcd_pos_of_pos_right _ hf.1) (by have := Nat.gcd_le_right (n := facN P.1.1) (shS P k (2 ^ P.1.1)) hf.1; omega)]
        refine v_l2i 125 dX4_share_124 rfl ?_
        rw [lN_i]
        refine v_iret dX4_share_125 rfl ?_
        rw [toldN, h106] at hQ
        simpa using hQ
      · refine li_6_3 110 dX4_share_109 rfl ?_
        refine v_goto 120 dX4_share_110 rfl ?_
        refine v_i2l 121 dX4_share_120 rfl ?_
        rw [nI_l (by omega)]
        refine ll_6_4 123 dX4_share_121 rfl ?_
        refine v_ldiv 124 dX4_share_123 rfl (l_ne0 (by have := Nat.gcd_le_right (n := facN P.1.1) (shS P k (2 ^ P.1.1)) hf.1; omega) (by have := Nat.gcd_pos_of_pos_right (shS P k (2 ^ P.1.1)) hf.1; omega)) ?_
        rw [pk_lDiv (by omega) (Nat.gcd_pos_of_pos_right _ hf.1) (by have := Nat.gcd_le_right (n := facN P.1.1) (shS P k (2 ^ P.1.1)) hf.1; omega)]
        refine v_l2i 125 dX4_share_124 rfl ?_
        rw [lN_i]
        refine v_iret dX4_share_125 rfl ?_
        rw [toldN] at hQ
        simpa [h106] using hQ
    · have hlt : x < 2 ^ P.1.1 := by rw [nI_leI (by omega) (by omega)] at h23; omega
      have hx32 : x < 32 := by omega
      have epc := pc_bc x hx32
      refine li_6_4 28 dX4_share_26 rfl ?_
      refine li_6_1 29 dX4_share_28 rfl ?_
      refine v_cSI2 32 dX4_share_29 rfl fvX4_has fsX4_has ml_X4_71 ⟨(Nat.le_of_ble_eq_true rfl), (Nat.le_of_ble_eq_true rfl)⟩ (Nat.le_of_ble_eq_true rfl) (Nat.le_of_ble_eq_true rfl) (c_X4_has (fun q29 => ⟨_, rfl, ?_⟩) (fun q29 => ⟨_, rfl, ?_⟩)) rfl
      · have e1 : shS P k (x + 1) = shS P k x := by show suN _ _ + shT P k x = _; rw [shT, q29]; rfl
        refine v_if_ne 84 35 dX4_share_32 rfl rfl (fun _ => ?_) (fun h => absurd h (by decide))
        refine icn_6_4 rfl 87 dX4_share_84 rfl rfl ?_
        refine v_goto 15 dX4_share_87 rfl ?_
        have e := ih hlt
        rw [e1] at e
        exact e
      · have hun := pc_un P.1.1 (by omega) k hk5 x hx32 hk hlt q29
        have e1 : shS P k (x + 1) = shS P k x + facN (pcN x) * facN (P.1.1 - 1 - pcN x) * (payN P (nI (x ||| 2 ^ k)) - payN P (nI x)) := by show suN _ _ + shT P k x = _; rw [shT, q29]; rfl
        have hp4 := payN_4 (P := P) (x := nI (x ||| 2 ^ k)) b4
        refine v_if_ne 84 35 dX4_share_32 rfl rfl (fun h => absurd rfl h) (fun _ => ?_)
        refine li_6_4 37 dX4_share_35 rfl ?_
        refine v_cSI1 40 dX4_share_37 rfl fvX4_ones fsX4_ones ml_X4_147 ⟨(Nat.le_of_ble_eq_true rfl), (Nat.le_of_ble_eq_true rfl)⟩ (Nat.le_of_ble_eq_true rfl) (Nat.le_of_ble_eq_true rfl) (c_X4_ones ⟨_, rfl, ?_⟩) rfl
        rw [pc_on x hx32]
        refine v_cSI1 43 dX4_share_40 rfl fvX4_factorial fsX4_factorial ml_X4_196 ⟨(Nat.le_of_ble_eq_true rfl), (Nat.le_of_ble_eq_true rfl)⟩ (Nat.le_of_ble_eq_true rfl) (Nat.le_of_ble_eq_true rfl) (c_X4_factorial (by omega) ⟨_, rfl, ?_⟩) rfl
        refine la_6_0 44 dX4_share_43 rfl ?_
        refine vgm_stamps hS.1 hb0 rfl 47 dX4_share_44 rfl ?_
        refine v_iconst (v := 1) 48 dX4_share_47 rfl ki_1 ?_
        refine v_isub 49 dX4_share_48 rfl ?_
        refine li_6_4 51 dX4_share_49 rfl ?_
        refine v_cSI1 54 dX4_share_51 rfl fvX4_ones fsX4_ones ml_X4_147 ⟨(Nat.le_of_ble_eq_true rfl), (Nat.le_of_ble_eq_true rfl)⟩ (Nat.le_of_ble_eq_true rfl) (Nat.le_of_ble_eq_true rfl) (c_X4_ones ⟨_, rfl, ?_⟩) rfl
        refine v_isub 55 dX4_share_54 rfl ?_
        rw [pc_on x hx32, show nI P.1.1 - 1 = nI (P.1.1 - 1) from pk_sub (b := 1) (by omega), pk_sub (by omega)]
        refine v_cSI1 58 dX4_share_55 rfl fvX4_factorial fsX4_factorial ml_X4_196 ⟨(Nat.le_of_ble_eq_true rfl), (Nat.le_of_ble_eq_true rfl)⟩ (Nat.le_of_ble_eq_true rfl) (Nat.le_of_ble_eq_true rfl) (c_X4_factorial (by omega) ⟨_, rfl, ?_⟩) rfl
        refine v_imul 59 dX4_share_58 rfl ?_
        rw [pk_mul]
        refine si_6_5 rfl 61 dX4_share_59 rfl rfl ?_
        refine li_6_3 62 dX4_share_61 rfl ?_
        refine li_6_5 64 dX4_share_62 rfl ?_
        refine la_6_0 65 dX4_share_64 rfl ?_
        refine li_6_4 67 dX4_share_65 rfl ?_
        refine v_iconst (v := 1) 68 dX4_share_67 rfl ki_1 ?_
        refine li_6_1 69 dX4_share_68 rfl ?_
        refine v_ishl 70 dX4_share_69 rfl ?_
        refine v_ior 71 dX4_share_70 rfl ?_
        rw [sh_or (by omega)]
        refine v_cVI1 74 dX4_share_71 rfl fvX4_paidBy fiX4_paidBy ml_X4_199 (seX4) rfl ⟨(Nat.le_of_ble_eq_true rfl), (Nat.le_of_ble_eq_true rfl)⟩ (Nat.le_of_ble_eq_true rfl) (Nat.le_of_ble_eq_true rfl) (c_X4_paidBy hS.1 hkd ⟨_, rfl, ?_⟩) rfl
        refine la_6_0 75 dX4_share_74 rfl ?_
        refine li_6_4 77 dX4_share_75 rfl ?_
        refine v_cVI1 80 dX4_share_77 rfl fvX4_paidBy fiX4_paidBy ml_X4_199 (seX4) rfl ⟨(Nat.le_of_ble_eq_true rfl), (Nat.le_of_ble_eq_true rfl)⟩ (Nat.le_of_ble_eq_true rfl) (Nat.le_of_ble_eq_true rfl) (c_X4_paidBy hS.1 hkd ⟨_, rfl, ?_⟩) rfl
        refine v_isub 81 dX4_share_80 rfl ?_
        rw [sh_d hag b5 hx32 hk]
        refine v_imul 82 dX4_share_81 rfl ?_
        refine v_iadd 83 dX4_share_82 rfl ?_
        rw [pk_mul, nI_add]
        refine si_6_3 rfl 84 dX4_share_83 rfl rfl ?_
        refine icn_6_4 rfl 87 dX4_share_84 rfl rfl ?_
        refine v_goto 15 dX4_share_87 rfl ?_
        refine fg_6_5 ?_
        have e := ih hlt
        rw [e1] at e
        exact e
  refine la_6_0 1 dX4_share_0 rfl ?_
  refine li_6_1 2 dX4_share_1 rfl ?_
  refine v_cVI1 5 dX4_share_2 rfl fvX4_isStamp fiX4_isStamp ml_X4_128 (seX4) rfl ⟨(Nat.le_of_ble_eq_true rfl), (Nat.le_of_ble_eq_true rfl)⟩ (Nat.le_of_ble_eq_true rfl) (Nat.le_of_ble_eq_true rfl) (c_X4_isStamp hS.1 hb0 (fun q2 => ⟨_, rfl, ?_⟩) (fun q2 => ⟨_, rfl, ?_⟩)) rfl
  · obtain ⟨k, hk, rfl⟩ := q2
    refine v_if_ne 10 8 dX4_share_5 rfl rfl (fun _ => ?_) (fun h => absurd h (by decide))
    refine v_iconst (v := 0) 11 dX4_share_10 rfl ki_0 ?_
    refine si_6_3 rfl 12 dX4_share_11 rfl rfl ?_
    refine v_iconst (v := 0) 13 dX4_share_12 rfl ki_0 ?_
    refine si_6_4 rfl 15 dX4_share_13 rfl rfl ?_
    exact key k hk (by rw [show shareF P (nI k) t = _ from ifP_neg (fun kz => kz ⟨k, hk, rfl⟩), kk_nI (by omega)] at hQ; exact hQ) 0 (Nat.zero_le _)
  · refine v_if_ne 10 8 dX4_share_5 rfl rfl (fun h => absurd rfl h) (fun _ => ?_)
    refine v_iconst (v := (-1)) 9 dX4_share_8 rfl ki_m1 ?_
    refine v_iret dX4_share_9 rfl ?_
    rw [show shareF P i t = -1 from ifP_pos q2] at hQ
    exact hQ

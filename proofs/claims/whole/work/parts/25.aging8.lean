theorem dn_idx {a : Nat} (h : 0 < a) : nI a - 1 = nI (a - 1) := pk_sub (b := 1) h
theorem dn_neg {a : Nat} (ha : a < 1000) (h : nI a - 1 < 0) : a = 0 := by
  rcases Nat.eq_zero_or_pos a with z | z
  · exact z
  · rw [dn_idx z] at h; exact absurd h (nI_pos (by omega))
theorem dn_pos {a : Nat} (ha : a < 1000) (h : ¬ nI a - 1 < 0) : 0 < a := by
  rcases Nat.eq_zero_or_pos a with z | z
  · subst z; exact absurd (by decide) h
  · exact z
theorem l_nlt {x : Int64} (h : ¬ x < 0) : ∃ r, r < 2 ^ 63 ∧ x = lN r := pk_lOf h
theorem lcmp_ge {x : Int64} (h : 0 ≤ lg_cmp x 0) : ¬ x < 0 := by
  rw [lg_cmp_ge, Int64.le_iff_toInt_le] at h
  rw [Int64.lt_iff_toInt_lt]
  omega
theorem lcmp_nge {x : Int64} (h : ¬ 0 ≤ lg_cmp x 0) : x < 0 := by
  rw [lg_cmp_ge, Int64.le_iff_toInt_le] at h
  rw [Int64.lt_iff_toInt_lt]
  omega
theorem lcmp_eq {x : Int64} : lg_cmp x 0 = 0 ↔ x = 0 := by
  unfold lg_cmp
  constructor
  · intro h
    split at h
    · exact absurd h (by decide)
    · split at h
      · assumption
      · exact absurd h (by decide)
  · intro h
    subst h
    decide
theorem m4 {m : Int32} (h1 : ¬ m < 1) (h2 : ¬ 4 < m) : ∃ k, 1 ≤ k ∧ k ≤ 4 ∧ m = nI k := by
  rw [i_lt] at h1 h2
  have e1 : (1 : Int32).toInt = 1 := by decide
  have e2 : (4 : Int32).toInt = 4 := by decide
  obtain ⟨k, hk, e⟩ := nI_of (x := m) (by rw [i_lt]; have : (0 : Int32).toInt = 0 := by decide
                                          omega)
  refine ⟨k, ?_, ?_, e⟩
  · rw [e, nI_toInt hk] at h1; omega
  · rw [e, nI_toInt hk] at h2; omega
theorem lN_toNat {r : Nat} (h : r < 2 ^ 63) : (lN r).toInt.toNat = r := by rw [pk_lT h]; rfl
theorem div_1000 (r t : Nat) : r / 1000 ^ t / 1000 = r / 1000 ^ (t + 1) := by rw [Nat.div_div_eq_div_mul, Nat.pow_succ]
theorem jud_no {k r : Nat} (h1 : 1 ≤ k) (hk : k ≤ 4) (hr : r < 2 ^ 63) (g : r / 1000 ^ k = 0) : ¬ (nI k < 1 ∨ ¬ nI k ≤ 4 ∨ lN r < 0 ∨ ∃ r2, lN r = lN r2 ∧ r2 < 2 ^ 63 ∧ 1000 ^ k ≤ r2) := by
  have e1 : (1 : Int32).toInt = 1 := by decide
  have e2 : (4 : Int32).toInt = 4 := by decide
  intro kz
  rcases kz with kz | kz | kz | ⟨kr, kq1, kq2, kq3⟩
  · rw [i_lt, nI_toInt (by omega)] at kz; omega
  · rw [i_le, nI_toInt (by omega)] at kz; omega
  · exact absurd ((pk_lLT hr (b := 0) (by decide)).mp kz) (Nat.not_lt_zero r)
  · have ke := (pk_lEQ hr kq2).mp kq1
    subst ke
    have kp := Nat.div_pos kq3 (Nat.pow_pos (n := k) (show 0 < 1000 by decide))
    omega
def dgR (u : Wd) (r k t : Nat) : Prop := ∀ j, k - t ≤ j → j < k → u.2.2 30 j = nI (r / 1000 ^ (k - 1 - j) % 1000)
set_option maxHeartbeats 4000000 in
set_option maxRecDepth 100000 in
theorem c_X3_judge {w : Wd} {P : PT} {T : TT} {A : AT} {U : Nat → Bool} {K : Nat → PT} {N : NT} {z : Int64} (hS : cS w P T A U K N z) (hz : P.1.2.2.2 = 0 ∨ P.1.2.2.2 = 1) {m : Int32} {x : Int64} {Q : Option Value → Wd → Prop} (hQ : ∀ u, cS u P T A U K N z → FrC w u → Q (some (.int (judgeF P m x))) u) : V mX3_judge 0 [some (.ref 0), some (.int m), some (.long x), none, none, none, none] [] w Q := by
  have b5 := hS.1.2.2.2.2.1
  have b4 := hS.1.2.2.2.2.2.1
  have key2 : ∀ k r, k ≤ 4 → (∀ u, cS u P T A U K N z → FrC w u → Q (some (.int (judG P r k 0 k))) u) → ∀ i, i ≤ k → ∀ u R, judG P r k 0 k = judG R r k i (k - i) → isC u 1 R → cS u P T A U K N z → FrC w u → dgR u r k k → V mX3_judge 84 [some (.ref 0), some (.int (nI k)), some (.long x), none, some (.long (lN (r / 1000 ^ k))), none, some (.int (nI i))] [] u Q := by
    intro k r hk hQ
    refine up (P := fun i => ∀ u R, judG P r k 0 k = judG R r k i (k - i) → isC u 1 R → cS u P T A U K N z → FrC w u → dgR u r k k → V mX3_judge 84 [some (.ref 0), some (.int (nI k)), some (.long x), none, some (.long (lN (r / 1000 ^ k))), none, some (.int (nI i))] [] u Q) (fun i hi ih => ?_)
    intro u R hv hC hSu hG hD
    refine li_7_6 86 dX3_judge_84 rfl ?_
    refine li_7_1 87 dX3_judge_86 rfl ?_
    refine v_icmp_ge 116 90 dX3_judge_87 rfl rfl (fun h87 => ?_) (fun h87 => ?_)
    · obtain rfl := ge_eq h87 hi (by omega)
      refine v_bipush (v := (-9)) 118 dX3_judge_116 rfl kb_m9 ?_
      refine v_iret dX3_judge_118 rfl ?_
      rw [hv, Nat.sub_self] at hQ
      exact hQ _ hSu hG
    · have hlt := ge_lt h87 (by omega) (by omega)
      have e : k - i = (k - (i + 1)) + 1 := by omega
      refine la_7_0 91 dX3_judge_90 rfl ?_
      refine vg_X3_27 rfl 94 dX3_judge_91 rfl ?_
      refine la_7_0 95 dX3_judge_94 rfl ?_
      refine vg_X3_55 rfl 98 dX3_judge_95 rfl ?_
      refine li_7_6 100 dX3_judge_98 rfl ?_
      refine vl_X3_doings _ 101 dX3_judge_100 rfl rfl (by omega) ?_
      rw [hD i (by omega) hlt]
      refine v_cVI1 104 dX3_judge_101 rfl fvX1_does fiX1_does ml_X3_184 (seX1 hb1) rfl ⟨(Nat.le_of_ble_eq_true rfl), (Nat.le_of_ble_eq_true rfl)⟩ (Nat.le_of_ble_eq_true rfl) (Nat.le_of_ble_eq_true rfl) (c_X1_does hb1 hC (Nat.mod_lt _ (by decide)) (fun R2 u2 a2 hC2 hF2 => ⟨_, rfl, ?_⟩) (fun q101 => ⟨_, rfl, ?_⟩)) rfl
      · refine v_if_ne 110 107 dX3_judge_104 rfl rfl (fun _ => ?_) (fun h => absurd h (by decide))
        refine icn_7_6 rfl 113 dX3_judge_110 rfl rfl ?_
        refine v_goto 84 dX3_judge_113 rfl ?_
        exact ih hlt u2 R2 (by rw [hv, e, judG, actF_some a2]) hC2 (hSu.fr1 hF2) (hG.tr (hF2.C hb1)) (fun j h1 h2 => by rw [hF2.2.2 30 (by decide)]; exact hD j h1 h2)
      · refine v_if_ne 110 107 dX3_judge_104 rfl rfl (fun h => absurd rfl h) (fun _ => ?_)
        refine li_7_6 109 dX3_judge_107 rfl ?_
        refine v_iret dX3_judge_109 rfl ?_
        rw [hv, e, judG, actF_none q101] at hQ
        exact hQ _ hSu hG
  have key : ∀ k r, 1 ≤ k → k ≤ 4 → r < 2 ^ 63 → x = lN r → m = nI k → ∀ t, t ≤ k → ∀ u, FrA 30 w u → dgR u r k t → V mX3_judge 27 [some (.ref 0), some (.int (nI k)), some (.long x), none, some (.long (lN (r / 1000 ^ t))), none, some (.int (nI (k - t) - 1))] [] u Q := by
    intro k r h1k hk hr ex em
    refine up (P := fun t => ∀ u, FrA 30 w u → dgR u r k t → V mX3_judge 27 [some (.ref 0), some (.int (nI k)), some (.long x), none, some (.long (lN (r / 1000 ^ t))), none, some (.int (nI (k - t) - 1))] [] u Q) (fun t ht ih => ?_)
    intro u hF hD
    have hSu : cS u P T A U K N z := ⟨hS.1.fA hb0 (by decide) hF, hS.2.mv (fun j _ => by rw [hF.1]) (by rw [hF.2.1]) (fun q a b => hF.2.2 q (by omega))⟩
    have hrt : r / 1000 ^ t < 2 ^ 63 := Nat.lt_of_le_of_lt (Nat.div_le_self _ _) hr
    refine li_7_6 29 dX3_judge_27 rfl ?_
    refine v_if_lt 60 32 dX3_judge_29 rfl rfl (fun h29 => ?_) (fun h29 => ?_)
    · have hkt := dn_neg (by omega) h29
      have ht2 : t = k := by omega
      subst ht2
      refine ll_7_4 62 dX3_judge_60 rfl ?_
      refine v_lconst (v := 0) 63 dX3_judge_62 rfl rfl ?_
      refine v_lcmp 64 dX3_judge_63 rfl ?_
      refine v_if_eq 70 67 dX3_judge_64 rfl rfl (fun h64 => ?_) (fun h64 => ?_)
      · have g64 : r / 1000 ^ t = 0 := (pk_lEQ hrt (by decide)).mp (lcmp_eq.mp h64)
        refine la_7_0 71 dX3_judge_70 rfl ?_
        refine vg_X3_27 rfl 74 dX3_judge_71 rfl ?_
        refine la_7_0 75 dX3_judge_74 rfl ?_
        refine vg_X3_23 rfl 78 dX3_judge_75 rfl ?_
        refine v_cVN1 81 dX3_judge_78 rfl fvX1_copyFrom fiX1_copyFrom ml_X3_66 (seX1 hb1) rfl ⟨(Nat.le_of_ble_eq_true rfl), (Nat.le_of_ble_eq_true rfl)⟩ (Nat.le_of_ble_eq_true rfl) (Nat.le_of_ble_eq_true rfl) (c_X1_copyFrom hb1 hb0 (by decide) hSu.1 hz (fun u1 hC1 hF1 => ⟨rfl, ?_⟩)) rfl
        refine v_iconst (v := 0) 82 dX3_judge_81 rfl ki_0 ?_
        refine si_7_6 rfl 84 dX3_judge_82 rfl rfl ?_
        have ee : judgeF P m x = judG P r t 0 t := by rw [em, ex]; unfold judgeF; rw [kk_nI (by omega), lN_toNat hr]; exact ifP_neg (jud_no h1k hk hr g64)
        rw [ee] at hQ
        exact key2 t r hk hQ 0 (Nat.zero_le _) _ P rfl hC1 (hSu.fr1 hF1) ((hF.C (by decide)).tr (hF1.C hb1)) (fun j h1 h2 => by rw [hF1.2.2 30 (by decide)]; exact hD j h1 h2)
      · have g64 : ¬ r / 1000 ^ t = 0 := fun z => h64 (lcmp_eq.mpr (by rw [z]; rfl))
        refine v_bipush (v := (-2)) 69 dX3_judge_67 rfl kb_m2 ?_
        refine v_iret dX3_judge_69 rfl ?_
        have ee : judgeF P m x = -2 := ifP_pos (Or.inr (Or.inr (Or.inr ⟨r, ex, hr, by rw [em, kk_nI (by omega)]; exact Classical.byContradiction (fun q => g64 (Nat.div_eq_of_lt (by omega)))⟩)))
        rw [ee] at hQ
        exact hQ _ hSu (hF.C (by decide))
    · have hkt := dn_pos (by omega) h29
      rw [dn_idx hkt]
      refine la_7_0 33 dX3_judge_32 rfl ?_
      refine vg_X3_55 rfl 36 dX3_judge_33 rfl ?_
      refine li_7_6 38 dX3_judge_36 rfl ?_
      refine ll_7_4 40 dX3_judge_38 rfl ?_
      refine v_ldc2 43 dX3_judge_40 rfl kl_X3_182 ?_
      refine v_lrem 44 dX3_judge_43 rfl (by decide) ?_
      refine v_l2i 45 dX3_judge_44 rfl ?_
      rw [show lN (r / 1000 ^ t) - lN (r / 1000 ^ t) / 1000 * 1000 = lN (r / 1000 ^ t % 1000) from pk_lRem (b := 1000) hrt (by decide) (by decide), lN_i]
      refine vw_X3_doings (k - t - 1) 46 dX3_judge_45 rfl rfl (by omega) (vrel (fun u1 e1 F1 => ?_))
      skip
      refine ll_7_4 48 dX3_judge_46 rfl ?_
      refine v_ldc2 51 dX3_judge_48 rfl kl_X3_182 ?_
      refine v_ldiv 52 dX3_judge_51 rfl (by decide) ?_
      rw [show lN (r / 1000 ^ t) / 1000 = lN (r / 1000 ^ (t + 1)) from by rw [← div_1000]; exact pk_lDiv (b := 1000) hrt (by decide) (by decide)]
      refine sl_7_4 rfl 54 dX3_judge_52 rfl rfl ?_
      refine ic_7_6 rfl 57 dX3_judge_54 rfl ki_m1 rfl ?_
      rw [show nI (k - t - 1) + -1 = nI (k - (t + 1)) - 1 from by rw [show k - t - 1 = k - (t + 1) by omega]; exact (Int32.sub_eq_add_neg _ _).symm]
      refine v_goto 27 dX3_judge_57 rfl ?_
      exact ih (by omega) _ (hF.tr F1) (fun j h1 h2 => by
        rw [e1]
        by_cases hj : j = k - t - 1
        · rw [if_pos hj, show k - 1 - j = t by omega]
        · rw [if_neg hj]; exact hD j (by omega) h2)
  refine li_7_1 1 dX3_judge_0 rfl ?_
  refine v_iconst (v := 1) 2 dX3_judge_1 rfl ki_1 ?_
  refine v_icmp_lt 16 5 dX3_judge_2 rfl rfl (fun h2 => ?_) (fun h2 => ?_)
  · refine v_bipush (v := (-2)) 18 dX3_judge_16 rfl kb_m2 ?_
    refine v_iret dX3_judge_18 rfl ?_
    rw [show judgeF P m x = -2 from ifP_pos (Or.inl h2)] at hQ
    exact hQ _ hS FrC.rf
  · refine li_7_1 6 dX3_judge_5 rfl ?_
    refine v_iconst (v := 4) 7 dX3_judge_6 rfl ki_4 ?_
    refine v_icmp_gt 16 10 dX3_judge_7 rfl rfl (fun h7 => ?_) (fun h7 => ?_)
    · refine v_bipush (v := (-2)) 18 dX3_judge_16 rfl kb_m2 ?_
      refine v_iret dX3_judge_18 rfl ?_
      rw [show judgeF P m x = -2 from ifP_pos (Or.inr (Or.inl (i_nle.mpr h7)))] at hQ
      exact hQ _ hS FrC.rf
    · refine ll_7_2 11 dX3_judge_10 rfl ?_
      refine v_lconst (v := 0) 12 dX3_judge_11 rfl rfl ?_
      refine v_lcmp 13 dX3_judge_12 rfl ?_
      refine v_if_ge 19 16 dX3_judge_13 rfl rfl (fun h13 => ?_) (fun h13 => ?_)
      · have g13 := lcmp_ge h13
        obtain ⟨r, hr, ex⟩ := l_nlt g13
        obtain ⟨k, h1k, hk, em⟩ := m4 h2 h7
        refine ll_7_2 20 dX3_judge_19 rfl ?_
        refine sl_7_4 rfl 22 dX3_judge_20 rfl rfl ?_
        refine li_7_1 23 dX3_judge_22 rfl ?_
        refine v_iconst (v := 1) 24 dX3_judge_23 rfl ki_1 ?_
        refine v_isub 25 dX3_judge_24 rfl ?_
        refine si_7_6 rfl 27 dX3_judge_25 rfl rfl ?_
        have ee := key k r h1k hk hr ex em 0 (Nat.zero_le _) w FrA.rf (fun j h1 h2 => absurd h2 (by omega))
        rw [Nat.pow_zero, Nat.div_one, ← ex, Nat.sub_zero, ← em] at ee
        exact ee
      · have g13 := lcmp_nge h13
        refine v_bipush (v := (-2)) 18 dX3_judge_16 rfl kb_m2 ?_
        refine v_iret dX3_judge_18 rfl ?_
        rw [show judgeF P m x = -2 from ifP_pos (Or.inr (Or.inr (Or.inl g13)))] at hQ
        exact hQ _ hS FrC.rf

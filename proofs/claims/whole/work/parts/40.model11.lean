/-- what stays of a post whatever is done -/
def okQ (P : PT) : Prop := (P.1.2.2.2 = 0 ∨ P.1.2.2.2 = 1) ∧ (∀ k, k < P.1.1 → ∃ a, a ≤ 9 ∧ P.2 1 k = nI a) ∧ (∀ s, s < P.1.1 → P.2 2 s = 0 ∨ P.2 2 s = 1 ∨ P.2 2 s = 2 ∨ P.2 2 s = 3)
theorem pass_row {P : PT} {j s : Nat} (h0 : ¬ j = 0) (h5 : ¬ j = 5) (h7 : ¬ j = 7) : (passP P).2 j s = P.2 j s := by
  show (carI (grR P) P.1.2.1).2 j s = P.2 j s
  rw [car_row h5 h7]
  simp [grR, growP, growI, h0]
theorem okQ.pass {P : PT} (h : okQ P) : okQ (passP P) := ⟨h.1, fun k hk => by rw [pass_row (by decide) (by decide) (by decide)]; exact h.2.1 k hk, fun k hk => by rw [pass_row (by decide) (by decide) (by decide)]; exact h.2.2 k hk⟩
theorem hit_ok {x : Int32} (h : ∃ a, a ≤ 9 ∧ x = nI a) : ∃ a, a ≤ 9 ∧ hitF x = nI a := by
  obtain ⟨a, ha, rfl⟩ := h
  have dec : ∀ a, a < 10 → hitF (nI a) = nI (a - 1) := by decide +kernel
  exact ⟨a - 1, by omega, dec a (by omega)⟩
theorem okQ.stick {P : PT} (h : okQ P) (i : Nat) (l : Int32) : okQ (stickP P i l) := by
  refine ⟨h.1, fun k hk => ?_, fun k hk => ?_⟩
  · by_cases e : k = i
    · subst e
      have := hit_ok (h.2.1 k hk)
      simpa [stickP, setP] using this
    · have := h.2.1 k hk
      simpa [stickP, setP, e] using this
  · have := h.2.2 k hk
    simpa [stickP, setP] using this
theorem okQ.send {P : PT} (h : okQ P) (i : Nat) : okQ (sendP P i) := ⟨h.1, fun k hk => by simpa [sendP, setP] using h.2.1 k hk, fun k hk => by simpa [sendP, setP] using h.2.2 k hk⟩
theorem okQ.part {P : PT} (h : okQ P) (i j : Nat) : okQ (partP P i j) := ⟨h.1, fun k hk => by simpa [partP, part1, growP, growI, setP] using h.2.1 k hk, fun k hk => by simpa [partP, part1, growP, growI, setP] using h.2.2 k hk⟩
theorem okQ.damp {P : PT} (h : okQ P) {x : Int32} (hx : x = 0 ∨ x = 1) : okQ (dampP P x) := ⟨hx, h.2.1, h.2.2⟩
theorem okQ.act {P R : PT} {x a c : Nat} (h : okQ P) (hr : actR P x a c R) : okQ R := by
  rcases hr with ⟨-, -, -, rfl⟩ | ⟨-, -, rfl⟩ | ⟨-, -, -, rfl⟩ | ⟨-, -, rfl⟩
  · exact h.pass
  · exact h.stick _ _
  · exact h.send _
  · exact h.part _ _
theorem p1000 (e : Nat) : 10 ^ (3 * e) = 1000 ^ e := by rw [Nat.pow_mul]
theorem p_lt {k : Nat} (h : k ≤ 12) : 10 ^ k < 2 ^ 62 := Nat.lt_of_le_of_lt (Nat.pow_le_pow_right (by decide) h) (by decide)
set_option maxHeartbeats 4000000 in
set_option maxRecDepth 100000 in
theorem c_X4_tenTo {w : Wd} {k : Nat} (hk : k ≤ 12) {Q : Option Value → Wd → Prop} (hQ : Q (some (.long (lN (10 ^ k)))) w) : V mX4_tenTo 0 [some (.int (nI k)), none, none, none] [] w Q := by
  have key : ∀ i, i ≤ k → V mX4_tenTo 4 [some (.int (nI k)), some (.long (lN (10 ^ i))), none, some (.int (nI i))] [] w Q := by
    refine up (fun i hi ih => ?_)
    refine li_4_3 5 dX4_tenTo_4 rfl ?_
    refine li_4_0 6 dX4_tenTo_5 rfl ?_
    refine v_icmp_ge 21 9 dX4_tenTo_6 rfl rfl (fun h6 => ?_) (fun h6 => ?_)
    · obtain rfl := ge_eq h6 hi (by omega)
      refine ll_4_1 22 dX4_tenTo_21 rfl ?_
      refine v_lret dX4_tenTo_22 rfl ?_
      exact hQ
    · have hlt := ge_lt h6 (by omega) (by omega)
      refine ll_4_1 10 dX4_tenTo_9 rfl ?_
      refine v_ldc2 13 dX4_tenTo_10 rfl kl_X4_178 ?_
      refine v_lmul 14 dX4_tenTo_13 rfl ?_
      refine sl_4_1 rfl 15 dX4_tenTo_14 rfl rfl ?_
      refine icn_4_3 rfl 18 dX4_tenTo_15 rfl rfl ?_
      refine v_goto 4 dX4_tenTo_18 rfl ?_
      have e := ih hlt
      rw [show lN (10 ^ (i + 1)) = lN (10 ^ i) * 10 from by rw [Nat.pow_succ]; exact (lN_mul _ 10).symm] at e
      exact e
  refine v_lconst (v := 1) 1 dX4_tenTo_0 rfl rfl ?_
  refine sl_4_1 rfl 2 dX4_tenTo_1 rfl rfl ?_
  refine v_iconst (v := 0) 3 dX4_tenTo_2 rfl ki_0 ?_
  refine si_4_3 rfl 4 dX4_tenTo_3 rfl rfl ?_
  exact key 0 (Nat.zero_le _)
theorem m4L {m : Int32} (h : ¬ m.toInt64 < 1 ∧ ¬ (4 : Int64) < m.toInt64) : ¬ m < 1 ∧ ¬ 4 < m := ⟨fun q => h.1 ((w64 m 1).mpr q), fun q => h.2 ((w64 4 m).mpr q)⟩
theorem n4L {m : Int32} (h : m.toInt64 < 1 ∨ (4 : Int64) < m.toInt64) : m < 1 ∨ ¬ m ≤ 4 := h.imp (fun q => (w64 m 1).mp q) (fun q => i_nle.mpr ((w64 4 m).mp q))
theorem lN_pred {a : Nat} (h : 0 < a) : lN a - 1 = lN (a - 1) := lN_sub (b := 1) h
theorem jud_in {k : Nat} (hk : k ≤ 4) {x : Int64} (h : ¬ x < 0 ∧ ¬ (lN (10 ^ (3 * k)) - 1) < x) : ∃ r, r < 2 ^ 63 ∧ x = lN r ∧ r / 1000 ^ k = 0 := by
  obtain ⟨r, hr, rfl⟩ := pk_lOf h.1
  refine ⟨r, hr, rfl, ?_⟩
  have hp : 0 < 10 ^ (3 * k) := Nat.pow_pos (by decide)
  have hb := p_lt (k := 3 * k) (by omega)
  rw [lN_pred hp, pk_lLT (by omega) hr] at h
  rw [← p1000]
  exact Nat.div_eq_of_lt (by omega)
theorem jud_out {k : Nat} (hk : k ≤ 4) {x : Int64} (h : x < 0 ∨ (lN (10 ^ (3 * k)) - 1) < x) : x < 0 ∨ ∃ r, x = lN r ∧ r < 2 ^ 63 ∧ 1000 ^ k ≤ r := by
  by_cases hx : x < 0
  · exact Or.inl hx
  · right
    obtain ⟨r, hr, rfl⟩ := pk_lOf hx
    refine ⟨r, rfl, hr, ?_⟩
    have hp : 0 < 10 ^ (3 * k) := Nat.pow_pos (by decide)
    have hb := p_lt (k := 3 * k) (by omega)
    have h2 := h.resolve_left hx
    rw [lN_pred hp, pk_lLT (by omega) hr] at h2
    rw [← p1000]
    omega
set_option maxHeartbeats 4000000 in
set_option maxRecDepth 100000 in
theorem c_X4_judge {w : Wd} {P : PT} {T : TT} {A : AT} {U : Nat → Bool} {K : Nat → PT} {N : NT} {z : Int64} (hS : mS w P T A U K N z) (hO : okQ P) {m : Int32} {x : Int64} {Q : Option Value → Wd → Prop} (hQ : ∀ u, mS u P T A U K N z → FrK w u → Q (some (.int (judgeF P m x))) u) : V mX4_judge 0 [some (.ref 1), some (.int m), some (.long x), none, none, none] [] w Q := by
  have b5 := hS.1.2.2.1
  have b4 := hS.1.2.2.2.1
  have key : ∀ k r, k ≤ 4 → r < 2 ^ 63 → (∀ u, mS u P T A U K N z → FrK w u → Q (some (.int (judG P r k 0 k))) u) → ∀ i, i ≤ k → ∀ u R, judG P r k 0 k = judG R r k i (k - i) → isM u 1 R → okQ R → FrM 1 w u → V mX4_judge 38 [some (.ref 1), some (.int (nI k)), some (.long (lN r)), none, some (.int (nI i)), none] [] u Q := by
    intro k r hk hr hQ
    refine up (P := fun i => ∀ u R, judG P r k 0 k = judG R r k i (k - i) → isM u 1 R → okQ R → FrM 1 w u → V mX4_judge 38 [some (.ref 1), some (.int (nI k)), some (.long (lN r)), none, some (.int (nI i)), none] [] u Q) (fun i hi ih => ?_)
    intro u R hv hM hOR hF
    refine li_6_4 40 dX4_judge_38 rfl ?_
    refine li_6_1 41 dX4_judge_40 rfl ?_
    refine v_icmp_ge 98 44 dX4_judge_41 rfl rfl (fun h41 => ?_) (fun h41 => ?_)
    · obtain rfl := ge_eq h41 hi (by omega)
      refine v_bipush (v := (-9)) 100 dX4_judge_98 rfl kb_m9 ?_
      refine v_iret dX4_judge_100 rfl ?_
      rw [hv, Nat.sub_self] at hQ
      exact hQ _ (hS.fr1 hF) hF.K
    · have hlt := ge_lt h41 (by omega) (by omega)
      have e : k - i = (k - (i + 1)) + 1 := by omega
      have hb := p_lt (k := 3 * (k - 1 - i)) (by omega)
      have hp : 0 < 10 ^ (3 * (k - 1 - i)) := Nat.pow_pos (by decide)
      obtain ⟨d, hd⟩ : ∃ d, d = r / 1000 ^ (k - 1 - i) % 1000 := ⟨_, rfl⟩
      have hd9 : d < 1000 := by rw [hd]; exact Nat.mod_lt _ (by decide)
      refine ll_6_2 45 dX4_judge_44 rfl ?_
      refine v_iconst (v := 3) 46 dX4_judge_45 rfl ki_3 ?_
      refine li_6_1 47 dX4_judge_46 rfl ?_
      refine v_iconst (v := 1) 48 dX4_judge_47 rfl ki_1 ?_
      refine v_isub 49 dX4_judge_48 rfl ?_
      refine li_6_4 51 dX4_judge_49 rfl ?_
      refine v_isub 52 dX4_judge_51 rfl ?_
      refine v_imul 53 dX4_judge_52 rfl ?_
      rw [show (3 : Int32) * (nI k - 1 - nI i) = nI (3 * (k - 1 - i)) from by rw [show nI k - 1 = nI (k - 1) from pk_sub (b := 1) (by omega), pk_sub (by omega)]; exact pk_mul 3 _]
      refine v_cSJ1 56 dX4_judge_53 rfl fvX4_tenTo fsX4_tenTo ml_X4_182 ⟨(Nat.le_of_ble_eq_true rfl), (Nat.le_of_ble_eq_true rfl)⟩ (Nat.le_of_ble_eq_true rfl) (Nat.le_of_ble_eq_true rfl) (c_X4_tenTo (by omega) ⟨_, rfl, ?_⟩) rfl
      refine v_ldiv 57 dX4_judge_56 rfl (fun kz => by have := (pk_lEQ (b := 0) (by omega) (by decide)).mp kz; omega) ?_
      rw [show lN r / lN (10 ^ (3 * (k - 1 - i))) = lN (r / 1000 ^ (k - 1 - i)) from by rw [pk_lDiv hr hp (by omega), p1000]]
      refine v_ldc2 60 dX4_judge_57 rfl kl_X4_186 ?_
      refine v_lrem 61 dX4_judge_60 rfl (by decide) ?_
      rw [show lN (r / 1000 ^ (k - 1 - i)) - lN (r / 1000 ^ (k - 1 - i)) / 1000 * 1000 = lN (r / 1000 ^ (k - 1 - i) % 1000) from pk_lRem (b := 1000) (Nat.lt_of_le_of_lt (Nat.div_le_self _ _) hr) (by decide) (by decide)]
      refine v_l2i 62 dX4_judge_61 rfl ?_
      rw [lN_i, ← hd]
      refine si_6_5 rfl 64 dX4_judge_62 rfl rfl ?_
      refine la_6_0 65 dX4_judge_64 rfl ?_
      refine li_6_5 67 dX4_judge_65 rfl ?_
      refine v_bipush (v := 100) 69 dX4_judge_67 rfl kb_100 ?_
      refine v_idiv 70 dX4_judge_69 rfl (by decide) ?_
      refine li_6_5 72 dX4_judge_70 rfl ?_
      refine v_bipush (v := 10) 74 dX4_judge_72 rfl kb_10 ?_
      refine v_idiv 75 dX4_judge_74 rfl (by decide) ?_
      refine v_bipush (v := 10) 77 dX4_judge_75 rfl kb_10 ?_
      refine v_irem 78 dX4_judge_77 rfl (by decide) ?_
      refine li_6_5 80 dX4_judge_78 rfl ?_
      refine v_bipush (v := 10) 82 dX4_judge_80 rfl kb_10 ?_
      refine v_irem 83 dX4_judge_82 rfl (by decide) ?_
      rw [dg1 hd9, dg2 hd9, dg3 hd9]
      refine v_cVI3 86 dX4_judge_83 rfl fvX4_tryThing fiX4_tryThing ml_X4_188 (seX4) rfl ⟨(Nat.le_of_ble_eq_true rfl), (Nat.le_of_ble_eq_true rfl)⟩ (Nat.le_of_ble_eq_true rfl) (Nat.le_of_ble_eq_true rfl) (c_X4_tryThing hM hOR.1 hOR.2.1 hOR.2.2 (by omega) (by omega) (by omega) (fun R2 u2 a2 hM2 hF2 => ⟨_, rfl, ?_⟩) (fun q83 => ⟨_, rfl, ?_⟩)) rfl
      · refine v_if_ne 92 89 dX4_judge_86 rfl rfl (fun _ => ?_) (fun h => absurd h (by decide))
        refine icn_6_4 rfl 95 dX4_judge_92 rfl rfl ?_
        refine v_goto 38 dX4_judge_95 rfl ?_
        refine fg_6_5 ?_
        subst hd
        exact ih hlt u2 R2 (by rw [hv, e, judG, actF_some a2]) hM2 (hOR.act a2) (hF.tr hF2)
      · refine v_if_ne 92 89 dX4_judge_86 rfl rfl (fun h => absurd rfl h) (fun _ => ?_)
        refine li_6_4 91 dX4_judge_89 rfl ?_
        refine v_iret dX4_judge_91 rfl ?_
        subst hd
        rw [hv, e, judG, actF_none q83] at hQ
        exact hQ _ (hS.fr1 hF) hF.K
  refine li_6_1 1 dX4_judge_0 rfl ?_
  refine v_i2l 2 dX4_judge_1 rfl ?_
  refine v_lconst (v := 1) 3 dX4_judge_2 rfl rfl ?_
  refine v_ldc2 6 dX4_judge_3 rfl kl_X4_180 ?_
  refine v_cSI3 9 dX4_judge_6 rfl fvX4_in fsX4_in ml_X4_56 ⟨(Nat.le_of_ble_eq_true rfl), (Nat.le_of_ble_eq_true rfl)⟩ (Nat.le_of_ble_eq_true rfl) (Nat.le_of_ble_eq_true rfl) (c_X4_in (fun q6 => ⟨_, rfl, ?_⟩) (fun q6 => ⟨_, rfl, ?_⟩)) rfl
  · obtain ⟨k, h1k, hk, rfl⟩ := m4 (m4L q6).1 (m4L q6).2
    refine v_if_eq 28 12 dX4_judge_9 rfl rfl (fun h => absurd h (by decide)) (fun _ => ?_)
    refine ll_6_2 13 dX4_judge_12 rfl ?_
    refine v_lconst (v := 0) 14 dX4_judge_13 rfl rfl ?_
    refine v_iconst (v := 3) 15 dX4_judge_14 rfl ki_3 ?_
    refine li_6_1 16 dX4_judge_15 rfl ?_
    refine v_imul 17 dX4_judge_16 rfl ?_
    rw [show (3 : Int32) * nI k = nI (3 * k) from pk_mul 3 k]
    refine v_cSJ1 20 dX4_judge_17 rfl fvX4_tenTo fsX4_tenTo ml_X4_182 ⟨(Nat.le_of_ble_eq_true rfl), (Nat.le_of_ble_eq_true rfl)⟩ (Nat.le_of_ble_eq_true rfl) (Nat.le_of_ble_eq_true rfl) (c_X4_tenTo (k := 3 * k) (by omega) ⟨_, rfl, ?_⟩) rfl
    refine v_lconst (v := 1) 21 dX4_judge_20 rfl rfl ?_
    refine v_lsub 22 dX4_judge_21 rfl ?_
    refine v_cSI3 25 dX4_judge_22 rfl fvX4_in fsX4_in ml_X4_56 ⟨(Nat.le_of_ble_eq_true rfl), (Nat.le_of_ble_eq_true rfl)⟩ (Nat.le_of_ble_eq_true rfl) (Nat.le_of_ble_eq_true rfl) (c_X4_in (fun q22 => ⟨_, rfl, ?_⟩) (fun q22 => ⟨_, rfl, ?_⟩)) rfl
    · obtain ⟨r, hr, rfl, g⟩ := jud_in hk q22
      refine v_if_ne 31 28 dX4_judge_25 rfl rfl (fun _ => ?_) (fun h => absurd h (by decide))
      refine la_6_0 32 dX4_judge_31 rfl ?_
      refine v_cVN0 35 dX4_judge_32 rfl fvX4_layTrial fiX4_layTrial ml_X4_169 (seX4) rfl ⟨(Nat.le_of_ble_eq_true rfl), (Nat.le_of_ble_eq_true rfl)⟩ (Nat.le_of_ble_eq_true rfl) (Nat.le_of_ble_eq_true rfl) (c_X4_layTrial hS.1 (fun u1 hM1 hF1 => ⟨rfl, ?_⟩)) rfl
      refine v_iconst (v := 0) 36 dX4_judge_35 rfl ki_0 ?_
      refine si_6_4 rfl 38 dX4_judge_36 rfl rfl ?_
      have ee : judgeF P (nI k) (lN r) = judG P r k 0 k := by unfold judgeF; rw [kk_nI (by omega), lN_toNat hr]; exact ifP_neg (jud_no h1k hk hr g)
      rw [ee] at hQ
      exact key k r hk hr hQ 0 (Nat.zero_le _) _ P rfl hM1 hO hF1
    · refine v_if_ne 31 28 dX4_judge_25 rfl rfl (fun h => absurd rfl h) (fun _ => ?_)
      refine v_bipush (v := (-2)) 30 dX4_judge_28 rfl kb_m2 ?_
      refine v_iret dX4_judge_30 rfl ?_
      rw [show judgeF P (nI k) x = -2 from ifP_pos (Or.inr (Or.inr (by rw [kk_nI (by omega)]; exact jud_out hk q22)))] at hQ
      exact hQ _ hS FrK.rf
  · refine v_if_eq 28 12 dX4_judge_9 rfl rfl (fun _ => ?_) (fun h => absurd rfl h)
    refine v_bipush (v := (-2)) 30 dX4_judge_28 rfl kb_m2 ?_
    refine v_iret dX4_judge_30 rfl ?_
    rw [show judgeF P m x = -2 from ifP_pos ((n4L q6).elim Or.inl (fun kz => Or.inr (Or.inl kz)))] at hQ
    exact hQ _ hS FrK.rf

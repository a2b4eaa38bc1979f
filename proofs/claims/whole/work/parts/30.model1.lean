theorem ixA (l s : Nat) : (30 : Int32) * nI l + nI s = nI (30 * l + s) := by rw [show (30 : Int32) = nI 30 from rfl, pk_mul, nI_add]
theorem ixB (l c s : Nat) : (30 : Int32) * nI l + nI c + nI s = nI (30 * l + c + s) := by rw [show (30 : Int32) = nI 30 from rfl, pk_mul, nI_add, nI_add]
theorem ixC (c s : Nat) : nI c + nI s = nI (30 * 0 + c + s) := by rw [nI_add]; congr 1; omega
section VM
variable {M : MD} {pc : Nat} {ls : LsT} {st : List Value} {w : Wd} {Q : Option Value → Wd → Prop} {P : PT} {l : Nat}
theorem vgm_stamps (hM : isM w l P) (hR : M.1 = RX4) (n : Nat) (hd : decode M.2.1 pc = .ok (.getfield 50, 3)) (hn : pc + 3 = n) (h : V M n ls (.int (nI P.1.1) :: st) w Q) : V M pc ls (.ref 1 :: st) w Q := vg_X4_50 hR n hd hn (by rw [hM.1]; exact h)
theorem vgm_letters (hM : isM w l P) (hR : M.1 = RX4) (n : Nat) (hd : decode M.2.1 pc = .ok (.getfield 99, 3)) (hn : pc + 3 = n) (h : V M n ls (.int (nI P.1.2.1) :: st) w Q) : V M pc ls (.ref 1 :: st) w Q := vg_X4_99 hR n hd hn (by rw [hM.2.1]; exact h)
theorem vmn_0 (hM : isM w l P) (hl : l < 2) {i : Int32} (k n : Nat) (hd : decode M.2.1 pc = .ok (.iaload, 1)) (hn : pc + 1 = n) (hi : i = nI (30 * l + k)) (hk : k < P.1.1) (h : V M n ls (.int (P.2 0 k) :: st) w Q) : V M pc ls (.int i :: .ref 33 :: st) w Q :=
  vl_X4_now (30 * l + k) n hd hn hi (by have h5 := hM.2.2.1; have h4 := hM.2.2.2.1; omega) (by rw [(hM.2.2.2.2.1.2.2.1 k hk).1]; exact h)
theorem vmn_1 (hM : isM w l P) (hl : l < 2) {i : Int32} (k n : Nat) (hd : decode M.2.1 pc = .ok (.iaload, 1)) (hn : pc + 1 = n) (hi : i = nI (30 * l + 5 + k)) (hk : k < P.1.1) (h : V M n ls (.int (P.2 1 k) :: st) w Q) : V M pc ls (.int i :: .ref 33 :: st) w Q :=
  vl_X4_now (30 * l + 5 + k) n hd hn hi (by have h5 := hM.2.2.1; have h4 := hM.2.2.2.1; omega) (by rw [(hM.2.2.2.2.1.2.2.1 k hk).2.1]; exact h)
theorem vmn_3 (hM : isM w l P) (hl : l < 2) {i : Int32} (k n : Nat) (hd : decode M.2.1 pc = .ok (.iaload, 1)) (hn : pc + 1 = n) (hi : i = nI (30 * l + 10 + k)) (hk : k < P.1.1) (h : V M n ls (.int (P.2 3 k) :: st) w Q) : V M pc ls (.int i :: .ref 33 :: st) w Q :=
  vl_X4_now (30 * l + 10 + k) n hd hn hi (by have h5 := hM.2.2.1; have h4 := hM.2.2.2.1; omega) (by rw [(hM.2.2.2.2.1.2.2.1 k hk).2.2.1]; exact h)
theorem vmn_4 (hM : isM w l P) (hl : l < 2) {i : Int32} (k n : Nat) (hd : decode M.2.1 pc = .ok (.iaload, 1)) (hn : pc + 1 = n) (hi : i = nI (30 * l + 15 + k)) (hk : k < P.1.1) (h : V M n ls (.int (P.2 4 k) :: st) w Q) : V M pc ls (.int i :: .ref 33 :: st) w Q :=
  vl_X4_now (30 * l + 15 + k) n hd hn hi (by have h5 := hM.2.2.1; have h4 := hM.2.2.2.1; omega) (by rw [(hM.2.2.2.2.1.2.2.1 k hk).2.2.2]; exact h)
theorem vmn_5 (hM : isM w l P) (hl : l < 2) {i : Int32} (k n : Nat) (hd : decode M.2.1 pc = .ok (.iaload, 1)) (hn : pc + 1 = n) (hi : i = nI (30 * l + 20 + k)) (hk : k < P.1.2.1) (h : V M n ls (.int (P.2 5 k) :: st) w Q) : V M pc ls (.int i :: .ref 33 :: st) w Q :=
  vl_X4_now (30 * l + 20 + k) n hd hn hi (by have h5 := hM.2.2.1; have h4 := hM.2.2.2.1; omega) (by rw [(hM.2.2.2.2.1.2.2.2 k hk).1]; exact h)
theorem vmn_7 (hM : isM w l P) (hl : l < 2) {i : Int32} (k n : Nat) (hd : decode M.2.1 pc = .ok (.iaload, 1)) (hn : pc + 1 = n) (hi : i = nI (30 * l + 24 + k)) (hk : k < P.1.2.1) (h : V M n ls (.int (P.2 7 k) :: st) w Q) : V M pc ls (.int i :: .ref 33 :: st) w Q :=
  vl_X4_now (30 * l + 24 + k) n hd hn hi (by have h5 := hM.2.2.1; have h4 := hM.2.2.2.1; omega) (by rw [(hM.2.2.2.2.1.2.2.2 k hk).2]; exact h)
theorem vmn_2 (hM : isM w l P) (hl : l < 2) {i : Int32} (k n : Nat) (hd : decode M.2.1 pc = .ok (.iaload, 1)) (hn : pc + 1 = n) (hi : i = nI k) (hk : k < P.1.1) (h : V M n ls (.int (P.2 2 k) :: st) w Q) : V M pc ls (.int i :: .ref 31 :: st) w Q := vl_X4_kind k n hd hn hi (Nat.lt_of_lt_of_le hk hM.2.2.1) (by rw [hM.2.2.2.2.2.1 k hk]; exact h)
theorem vmn_6 (hM : isM w l P) (hl : l < 2) {i : Int32} (k n : Nat) (hd : decode M.2.1 pc = .ok (.iaload, 1)) (hn : pc + 1 = n) (hi : i = nI k) (hk : k < P.1.2.1) (h : V M n ls (.int (P.2 6 k) :: st) w Q) : V M pc ls (.int i :: .ref 32 :: st) w Q := vl_X4_cost k n hd hn hi (Nat.lt_of_lt_of_le hk hM.2.2.2.1) (by rw [hM.2.2.2.2.2.2 k hk]; exact h)
end VM
set_option maxHeartbeats 4000000 in
set_option maxRecDepth 100000 in
theorem c_X4_has {w : Wd} {x : Int32} {k : Nat} {Q : Option Value → Wd → Prop} (hT : bit x k = true → Q (some (.int 1)) w) (hF : bit x k = false → Q (some (.int 0)) w) : V mX4_has 0 [some (.int x), some (.int (nI k))] [] w Q := by
  refine li_2_0 1 dX4_has_0 rfl ?_
  refine li_2_1 2 dX4_has_1 rfl ?_
  refine v_ishr 3 dX4_has_2 rfl ?_
  refine v_iconst (v := 1) 4 dX4_has_3 rfl ki_1 ?_
  refine v_iand 5 dX4_has_4 rfl ?_
  refine v_iconst (v := 1) 6 dX4_has_5 rfl ki_1 ?_
  refine v_icmp_ne 13 9 dX4_has_6 rfl rfl (fun h6 => ?_) (fun h6 => ?_)
  · refine v_iconst (v := 0) 14 dX4_has_13 rfl ki_0 ?_
    refine v_zret dX4_has_14 rfl (Or.inl rfl) ?_
    exact hF (by simpa [bit] using h6)
  · refine v_iconst (v := 1) 10 dX4_has_9 rfl ki_1 ?_
    refine v_goto 14 dX4_has_10 rfl ?_
    refine v_zret dX4_has_14 rfl (Or.inr rfl) ?_
    exact hT (by simpa [bit] using h6)
theorem lcmp_lt {x y : Int64} : lg_cmp x y < 0 ↔ x < y := by
  unfold lg_cmp
  simp only [gt_iff_lt, Int64.lt_iff_toInt_lt, ← Int64.toInt_inj]
  repeat' split
  · constructor
    · intro h; exact absurd h (by decide)
    · intro h; omega
  · constructor
    · intro h; exact absurd h (by decide)
    · intro h; omega
  · constructor
    · intro h; omega
    · intro h; decide
theorem lcmp_gt {x y : Int64} : 0 < lg_cmp x y ↔ y < x := by
  unfold lg_cmp
  simp only [gt_iff_lt, Int64.lt_iff_toInt_lt, ← Int64.toInt_inj]
  repeat' split
  · constructor
    · intro h; assumption
    · intro h; decide
  · constructor
    · intro h; exact absurd h (by decide)
    · intro h; omega
  · constructor
    · intro h; exact absurd h (by decide)
    · intro h; omega
theorem in_iff {i : Int32} {n : Nat} (hn : n < 1000) : (¬ i.toInt64 < 0 ∧ ¬ (nI n - 1).toInt64 < i.toInt64) ↔ ∃ k, k < n ∧ i = nI k := by
  have e1 : (nI n - 1).toInt64.toInt = (n : Int) - 1 := by rw [Int32.toInt_toInt64]; exact pk_sub_toInt (b := 1) (by omega) (by decide)
  rw [Int64.lt_iff_toInt_lt, Int64.lt_iff_toInt_lt, e1, Int32.toInt_toInt64]
  have e0 : (0 : Int64).toInt = 0 := by decide
  rw [e0]
  constructor
  · rintro ⟨h1, h2⟩
    obtain ⟨k, hk, e⟩ := nI_of (x := i) (by rw [i_lt]; have : (0 : Int32).toInt = 0 := by decide
                                            omega)
    refine ⟨k, ?_, e⟩
    rw [e, nI_toInt hk] at h2
    omega
  · rintro ⟨k, hk, rfl⟩
    rw [nI_toInt (by omega)]
    omega
theorem in_niff {i : Int32} {n : Nat} (hn : n < 1000) (h : i.toInt64 < 0 ∨ (nI n - 1).toInt64 < i.toInt64) : ¬ ∃ k, k < n ∧ i = nI k := fun q => by
  have := (in_iff hn).mpr q
  exact h.elim this.1 this.2
set_option maxHeartbeats 4000000 in
set_option maxRecDepth 100000 in
theorem c_X4_in {w : Wd} {a c d : Int64} {Q : Option Value → Wd → Prop} (hT : (¬ a < c ∧ ¬ d < a) → Q (some (.int 1)) w) (hF : (a < c ∨ d < a) → Q (some (.int 0)) w) : V mX4_in 0 [some (.long a), none, some (.long c), none, some (.long d), none] [] w Q := by
  refine ll_6_0 1 dX4_in_0 rfl ?_
  refine ll_6_2 2 dX4_in_1 rfl ?_
  refine v_lcmp 3 dX4_in_2 rfl ?_
  refine v_if_lt 17 6 dX4_in_3 rfl rfl (fun h3 => ?_) (fun h3 => ?_)
  · refine v_iconst (v := 0) 18 dX4_in_17 rfl ki_0 ?_
    refine v_zret dX4_in_18 rfl (Or.inl rfl) ?_
    exact hF (Or.inl (lcmp_lt.mp h3))
  · refine ll_6_0 7 dX4_in_6 rfl ?_
    refine ll_6_4 9 dX4_in_7 rfl ?_
    refine v_lcmp 10 dX4_in_9 rfl ?_
    refine v_if_gt 17 13 dX4_in_10 rfl rfl (fun h10 => ?_) (fun h10 => ?_)
    · refine v_iconst (v := 0) 18 dX4_in_17 rfl ki_0 ?_
      refine v_zret dX4_in_18 rfl (Or.inl rfl) ?_
      exact hF (Or.inr (lcmp_gt.mp h10))
    · refine v_iconst (v := 1) 14 dX4_in_13 rfl ki_1 ?_
      refine v_goto 18 dX4_in_14 rfl ?_
      refine v_zret dX4_in_18 rfl (Or.inr rfl) ?_
      exact hT ⟨fun q => h3 (lcmp_lt.mpr q), fun q => h10 (lcmp_gt.mpr q)⟩
set_option maxHeartbeats 4000000 in
set_option maxRecDepth 100000 in
theorem c_X4_isStamp {l : Nat} {w : Wd} {P : PT} (hM : isM w l P) {i : Int32} {Q : Option Value → Wd → Prop} (hT : (∃ k, k < P.1.1 ∧ i = nI k) → Q (some (.int 1)) w) (hF : (¬ ∃ k, k < P.1.1 ∧ i = nI k) → Q (some (.int 0)) w) : V mX4_isStamp 0 [some (.ref 1), some (.int i)] [] w Q := by
  have b5 := hM.2.2.1
  have b4 := hM.2.2.2.1
  refine li_2_1 1 dX4_isStamp_0 rfl ?_
  refine v_i2l 2 dX4_isStamp_1 rfl ?_
  refine v_lconst (v := 0) 3 dX4_isStamp_2 rfl rfl ?_
  refine la_2_0 4 dX4_isStamp_3 rfl ?_
  refine vgm_stamps hM rfl 7 dX4_isStamp_4 rfl ?_
  refine v_iconst (v := 1) 8 dX4_isStamp_7 rfl ki_1 ?_
  refine v_isub 9 dX4_isStamp_8 rfl ?_
  refine v_i2l 10 dX4_isStamp_9 rfl ?_
  refine v_cSI3 13 dX4_isStamp_10 rfl fvX4_in fsX4_in ml_X4_56 ⟨(Nat.le_of_ble_eq_true rfl), (Nat.le_of_ble_eq_true rfl)⟩ (Nat.le_of_ble_eq_true rfl) (Nat.le_of_ble_eq_true rfl) (c_X4_in (fun q10 => ⟨_, rfl, ?_⟩) (fun q10 => ⟨_, rfl, ?_⟩)) rfl
  · refine v_zret dX4_isStamp_13 rfl (Or.inr rfl) ?_
    exact hT ((in_iff (by omega)).mp q10)
  · refine v_zret dX4_isStamp_13 rfl (Or.inl rfl) ?_
    exact hF (in_niff (by omega) q10)
set_option maxHeartbeats 4000000 in
set_option maxRecDepth 100000 in
theorem c_X4_isLetter {l : Nat} {w : Wd} {P : PT} (hM : isM w l P) {i : Int32} {Q : Option Value → Wd → Prop} (hT : (∃ k, k < P.1.2.1 ∧ i = nI k) → Q (some (.int 1)) w) (hF : (¬ ∃ k, k < P.1.2.1 ∧ i = nI k) → Q (some (.int 0)) w) : V mX4_isLetter 0 [some (.ref 1), some (.int i)] [] w Q := by
  have b5 := hM.2.2.1
  have b4 := hM.2.2.2.1
  refine li_2_1 1 dX4_isLetter_0 rfl ?_
  refine v_i2l 2 dX4_isLetter_1 rfl ?_
  refine v_lconst (v := 0) 3 dX4_isLetter_2 rfl rfl ?_
  refine la_2_0 4 dX4_isLetter_3 rfl ?_
  refine vgm_letters hM rfl 7 dX4_isLetter_4 rfl ?_
  refine v_iconst (v := 1) 8 dX4_isLetter_7 rfl ki_1 ?_
  refine v_isub 9 dX4_isLetter_8 rfl ?_
  refine v_i2l 10 dX4_isLetter_9 rfl ?_
  refine v_cSI3 13 dX4_isLetter_10 rfl fvX4_in fsX4_in ml_X4_56 ⟨(Nat.le_of_ble_eq_true rfl), (Nat.le_of_ble_eq_true rfl)⟩ (Nat.le_of_ble_eq_true rfl) (Nat.le_of_ble_eq_true rfl) (c_X4_in (fun q10 => ⟨_, rfl, ?_⟩) (fun q10 => ⟨_, rfl, ?_⟩)) rfl
  · refine v_zret dX4_isLetter_13 rfl (Or.inr rfl) ?_
    exact hT ((in_iff (by omega)).mp q10)
  · refine v_zret dX4_isLetter_13 rfl (Or.inl rfl) ?_
    exact hF (in_niff (by omega) q10)
set_option maxHeartbeats 4000000 in
set_option maxRecDepth 100000 in
theorem c_X4_span {l : Nat} {w : Wd} {P : PT} (hM : isM w l P) (hl : l < 2) {k : Nat} (hk : k < P.1.1) {Q : Option Value → Wd → Prop} (hQ : Q (some (.int (spanF (P.2 2 k) (P.2 1 k)))) w) : V mX4_span 0 [some (.ref 1), some (.int (nI l)), some (.int (nI k))] [] w Q := by
  have b5 := hM.2.2.1
  have b4 := hM.2.2.2.1
  refine v_bipush (v := 60) 2 dX4_span_0 rfl kb_60 ?_
  refine v_iconst (v := 3) 3 dX4_span_2 rfl ki_3 ?_
  refine la_3_0 4 dX4_span_3 rfl ?_
  refine vg_X4_16 rfl 7 dX4_span_4 rfl ?_
  refine v_bipush (v := 30) 9 dX4_span_7 rfl kb_30 ?_
  refine li_3_1 10 dX4_span_9 rfl ?_
  refine v_imul 11 dX4_span_10 rfl ?_
  refine v_iconst (v := 5) 12 dX4_span_11 rfl ki_5 ?_
  refine v_iadd 13 dX4_span_12 rfl ?_
  refine li_3_2 14 dX4_span_13 rfl ?_
  refine v_iadd 15 dX4_span_14 rfl ?_
  refine vmn_1 hM hl _ 16 dX4_span_15 rfl (ixB l 5 k) hk ?_
  refine v_imul 17 dX4_span_16 rfl ?_
  refine v_iadd 18 dX4_span_17 rfl ?_
  refine la_3_0 19 dX4_span_18 rfl ?_
  refine vg_X4_7 rfl 22 dX4_span_19 rfl ?_
  refine li_3_2 23 dX4_span_22 rfl ?_
  refine vmn_2 hM hl _ 24 dX4_span_23 rfl rfl hk ?_
  refine v_iconst (v := 1) 25 dX4_span_24 rfl ki_1 ?_
  refine v_icmp_ne 33 28 dX4_span_25 rfl rfl (fun h25 => ?_) (fun h25 => ?_)
  · refine la_3_0 34 dX4_span_33 rfl ?_
    refine vg_X4_7 rfl 37 dX4_span_34 rfl ?_
    refine li_3_2 38 dX4_span_37 rfl ?_
    refine vmn_2 hM hl _ 39 dX4_span_38 rfl rfl hk ?_
    refine v_iconst (v := 2) 40 dX4_span_39 rfl ki_2 ?_
    refine v_icmp_ne 48 43 dX4_span_40 rfl rfl (fun h40 => ?_) (fun h40 => ?_)
    · refine v_iconst (v := 0) 49 dX4_span_48 rfl ki_0 ?_
      refine v_iadd 50 dX4_span_49 rfl ?_
      refine v_iret dX4_span_50 rfl ?_
      simp only [spanF, *, if_true, if_false] at hQ
      exact hQ
    · refine v_bipush (v := 15) 45 dX4_span_43 rfl kb_15 ?_
      refine v_goto 49 dX4_span_45 rfl ?_
      refine v_iadd 50 dX4_span_49 rfl ?_
      refine v_iret dX4_span_50 rfl ?_
      simp only [spanF, *, if_true, if_false] at hQ
      exact hQ
  · refine v_bipush (v := 10) 30 dX4_span_28 rfl kb_10 ?_
    refine v_goto 49 dX4_span_30 rfl ?_
    refine v_iadd 50 dX4_span_49 rfl ?_
    refine v_iret dX4_span_50 rfl ?_
    simp only [spanF, *, if_true, if_false] at hQ
    exact hQ
set_option maxHeartbeats 4000000 in
set_option maxRecDepth 100000 in
theorem c_X4_isAlive {l : Nat} {w : Wd} {P : PT} (hM : isM w l P) (hl : l < 2) {k : Nat} (hk : k < P.1.1) {Q : Option Value → Wd → Prop} (hT : alP P k = true → Q (some (.int 1)) w) (hF : alP P k = false → Q (some (.int 0)) w) : V mX4_isAlive 0 [some (.ref 1), some (.int (nI l)), some (.int (nI k))] [] w Q := by
  have b5 := hM.2.2.1
  have b4 := hM.2.2.2.1
  refine la_3_0 1 dX4_isAlive_0 rfl ?_
  refine vg_X4_16 rfl 4 dX4_isAlive_1 rfl ?_
  refine v_bipush (v := 30) 6 dX4_isAlive_4 rfl kb_30 ?_
  refine li_3_1 7 dX4_isAlive_6 rfl ?_
  refine v_imul 8 dX4_isAlive_7 rfl ?_
  refine li_3_2 9 dX4_isAlive_8 rfl ?_
  refine v_iadd 10 dX4_isAlive_9 rfl ?_
  refine vmn_0 hM hl _ 11 dX4_isAlive_10 rfl (ixA l k) hk ?_
  refine la_3_0 12 dX4_isAlive_11 rfl ?_
  refine li_3_1 13 dX4_isAlive_12 rfl ?_
  refine li_3_2 14 dX4_isAlive_13 rfl ?_
  refine v_cVI2 17 dX4_isAlive_14 rfl fvX4_span fiX4_span ml_X4_105 (seX4) rfl ⟨(Nat.le_of_ble_eq_true rfl), (Nat.le_of_ble_eq_true rfl)⟩ (Nat.le_of_ble_eq_true rfl) (Nat.le_of_ble_eq_true rfl) (c_X4_span hM hl hk ⟨_, rfl, ?_⟩) rfl
  refine v_icmp_ge 24 20 dX4_isAlive_17 rfl rfl (fun h17 => ?_) (fun h17 => ?_)
  · refine v_iconst (v := 0) 25 dX4_isAlive_24 rfl ki_0 ?_
    refine v_zret dX4_isAlive_25 rfl (Or.inl rfl) ?_
    exact hF (by simpa [alP, i_nlt] using h17)
  · refine v_iconst (v := 1) 21 dX4_isAlive_20 rfl ki_1 ?_
    refine v_goto 25 dX4_isAlive_21 rfl ?_
    refine v_zret dX4_isAlive_25 rfl (Or.inr rfl) ?_
    exact hT (by simpa [alP] using i_nle.mp h17)

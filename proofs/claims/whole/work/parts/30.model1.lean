theorem ixA (l s : Nat) : (30 : Int32) * nI l + nI s = nI (30 * l + s) := by rw [show (30 : Int32) = nI 30 from rfl, pk_mul, nI_add]
theorem ixB (l c s : Nat) : (30 : Int32) * nI l + nI c + nI s = nI (30 * l + c + s) := by rw [show (30 : Int32) = nI 30 from rfl, pk_mul, nI_add, nI_add]
theorem ixC (c s : Nat) : nI c + nI s = nI (30 * 0 + c + s) := by rw [nI_add]; congr 1; omega
section VM
variable {M : MD} {pc : Nat} {ls : LsT} {st : List Value} {w : Wd} {Q : Option Value → Wd → Prop} {P : PT} {l : Nat}
theorem vgm_stamps (hM : isM w l P) (hl : l < 2) (hR : M.1 = RX4) (n : Nat) (hd : decode M.2.1 pc = .ok (.getfield 50, 3)) (hn : pc + 3 = n) (h : V M n ls (.int (nI P.1.1) :: st) w Q) : V M pc ls (.ref 1 :: st) w Q := vg_X4_50 hR n hd hn (by rw [hM.1]; exact h)
theorem vgm_letters (hM : isM w l P) (hl : l < 2) (hR : M.1 = RX4) (n : Nat) (hd : decode M.2.1 pc = .ok (.getfield 99, 3)) (hn : pc + 3 = n) (h : V M n ls (.int (nI P.1.2.1) :: st) w Q) : V M pc ls (.ref 1 :: st) w Q := vg_X4_99 hR n hd hn (by rw [hM.2.1]; exact h)
theorem vmn_0 (hM : isM w l P) (hl : l < 2) {i : Int32} (k n : Nat) (hd : decode M.2.1 pc = .ok (.iaload, 1)) (hn : pc + 1 = n) (hi : i = nI (30 * l + k)) (hk : k < P.1.1) (h : V M n ls (.int (P.2 0 k) :: st) w Q) : V M pc ls (.int i :: .ref 33 :: st) w Q :=
  vl_X4_now (30 * l + k) n hd hn hi (by have h5 := hM.2.2.1; have h4 := hM.2.2.2.1; omega) (by rw [(hM.2.2.2.2.1.2.2.1 k hk).1]; exact h)
theorem vmn_1 (hM : isM w l P) (hl : l < 2) {i : Int32} (k n : Nat) (hd : decode M.2.1 pc = .ok (.iaload, 1)) (hn : pc + 1 = n) (hi : i = nI (30 * l + 5 + k)) (hk : k < P.1.1) (h : V M n ls (.int (P.2 1 k) :: st) w Q) : V M pc ls (.int i :: .ref 33 :: st) w Q :=
  vl_X4_now (30 * l + 5 + k) n hd hn hi (by have h5 := hM.2.2.1; have h4 := hM.2.2.2.1; omega) (by rw [(hM.2.2.2.2.1.2.2.1 k hk).2.1]; exact h)
theorem vmn_3 (hM : isM w l P) (hl : l < 2) {i : Int32} (k n : Nat) (hd : decode M.2.1 pc = .ok (.iaload, 1)) (hn : pc + 1 = n) (hi : i = nI (30 * l + 10 + k)) (hk : k < P.1.1) (h : V M n ls (.int (P.2 3 k) :: st) w Q) : V M pc ls (.int i :: .ref 33 :: st) w Q :=
  vl_X4_now (30 * l + 10 + k) n hd hn hi (by have h5 := hM.2.2.1; have h4 := hM.2.2.2.1; omega) (by rw [(hM.2.2.2.2.1.2.2.1 k hk).2.2.1]; exact h)
theorem vmn_4 (hM : isM w l P) (hl : l < 2) {i : Int32} (k n : Nat) (hd : decode M.2.1 pc = .ok (.iaload, 1)) (hn : pc + 1 = n) (hi : i = nI (30 * l + 15 + k)) (hk : k < P.1.1) (h : V M n ls (.int (P.2 4 k) :: st) w Q) : V M pc ls (.int i :: .ref 33 :: st) w Q :=
  vl_X4_now (30 * l + 15 + k) n hd hn hi (by have h5 := hM.2.2.1; have h4 := hM.2.2.2.1; omega) (by rw [(hM.2.2.2.2.1.2.2.1 k hk).2.2.2]; exact h)
theorem vmn_5 (hM : isM w l P) (hl : l < 2) {i : Int32} (k n : Nat) (hd : decode M.2.1 pc = .ok (.iaload, 1)) (hn : pc + 1 = n) (hi : i = nI (30 * l + 20 + k)) (hk : k < P.1.2.1) (h : V M n ls (.int (P.2 5 k) :: st) w Q) : V M pc ls (.int i :: .ref 33 :: st) w Q :=
  vl_X4_now (30 * l + 20 + k) n hd hn hi (by have h5 := hM.2.2.1; have h4 := hM.2.2.2.1; omega) (by rw [(hM.2.2.2.2.1.2.2.2 k hk).1]; exact h)
theorem vmn_7 (hM : isM w l P) (hl : l < 2) {i : Int32} (k n : Nat) (hd : decode M.2.1 pc = .ok (.iaload, 1)) (hn : pc + 1 = n) (hi : i = nI (30 * l + 24 + k)) (hk : k < P.1.2.1) (h : V M n ls (.int (P.2 7 k) :: st) w Q) : V M pc ls (.int i :: .ref 33 :: st) w Q :=
  vl_X4_now (30 * l + 24 + k) n hd hn hi (by have h5 := hM.2.2.1; have h4 := hM.2.2.2.1; omega) (by rw [(hM.2.2.2.2.1.2.2.2 k hk).2]; exact h)
theorem vmn_2 (hM : isM w l P) (hl : l < 2) {i : Int32} (k n : Nat) (hd : decode M.2.1 pc = .ok (.iaload, 1)) (hn : pc + 1 = n) (hi : i = nI k) (hk : k < P.1.1) (h : V M n ls (.int (P.2 2 k) :: st) w Q) : V M pc ls (.int i :: .ref 31 :: st) w Q := vl_X4_kind k n hd hn hi (Nat.lt_of_lt_of_le hk hM.2.2.1) (by rw [hM.2.2.2.2.2.1 k hk]; exact h)
theorem vmn_6 (hM : isM w l P) (hl : l < 2) {i : Int32} (k n : Nat) (hd : decode M.2.1 pc = .ok (.iaload, 1)) (hn : pc + 1 = n) (hi : i = nI k) (hk : k < P.1.2.1) (h : V M n ls (.int (P.2 6 k) :: st) w Q) : V M pc ls (.int i :: .ref 32 :: st) w Q := vl_X4_cost k n hd hn hi (Nat.lt_of_lt_of_le hk hM.2.2.2.1) (by rw [hM.2.2.2.2.2.2 k hk]; exact h)
end VM
set_option maxHeartbeats 4000000 in
set_option maxRecDepth 100000 in
theorem c_X4_has {w : Wd} {x : Int32} {k : Nat} {Q : Option Value → Wd → Prop} (hT : bit x k = true → Q (some (.int 1)) w) (hF : bit x k = false → Q (some (.int 0)) w) : V mX4_has 0 [some (.int x), some (.int (nI k))] [] w Q := by
  refine li_2_0 1 dX4_has_0 rfl ?_
  refine li_2_1 2 dX4_has_1 rfl ?_
  refine v_ishr 3 dX4_has_2 rfl ?_
  refine v_iconst (v := 1) 4 dX4_has_3 rfl ki_1 ?_
  refine v_iand 5 dX4_has_4 rfl ?_
  refine v_iconst (v := 1) 6 dX4_has_5 rfl ki_1 ?_
  refine v_icmp_ne 13 9 dX4_has_6 rfl rfl (fun h6 => ?_) (fun h6 => ?_)
  · refine v_iconst (v := 0) 14 dX4_has_13 rfl ki_0 ?_
    refine v_zret dX4_has_14 rfl (Or.inl rfl) ?_
    exact hF (by simpa [bit] using h6)
  · refine v_iconst (v := 1) 10 dX4_has_9 rfl ki_1 ?_
    refine v_goto 14 dX4_has_10 rfl ?_
    refine v_zret dX4_has_14 rfl (Or.inr rfl) ?_
    exact hT (by simpa [bit] using h6)
theorem lcmp_lt {x y : Int64} : lg_cmp x y < 0 ↔ x < y := by
  unfold lg_cmp
  simp only [gt_iff_lt, Int64.lt_iff_toInt_lt, ← Int64.toInt_inj]
  repeat' split
  · constructor
    · intro h; exact absurd h (by decide)
    · intro h; omega
  · constructor
    · intro h; exact absurd h (by decide)
    · intro h; omega
  · constructor
    · intro h; omega
    · intro h; decide
theorem lcmp_gt {x y : Int64} : 0 < lg_cmp x y ↔ y < x := by
  unfold lg_cmp
  simp only [gt_iff_lt, Int64.lt_iff_toInt_lt, ← Int64.toInt_inj]
  repeat' split
  · constructor
    · intro h; assumption
    · intro h; decide
  · constructor
    · intro h; exact absurd h (by decide)
    · intro h; omega
  · constructor
    · intro h; exact absurd h (by decide)
    · intro h; omega
theorem in_iff {i : Int32} {n : Nat} (hn : n < 1000) : (¬ i.toInt64 < 0 ∧ ¬ (nI n - 1).toInt64 < i.toInt64) ↔ ∃ k, k < n ∧ i = nI k := by
  have e1 : (nI n - 1).toInt64.toInt = (n : Int) - 1 := by rw [Int32.toInt_toInt64]; exact pk_sub_toInt (b := 1) (by omega) (by decide)
  rw [Int64.lt_iff_toInt_lt, Int64.lt_iff_toInt_lt, e1, Int32.toInt_toInt64]
  have e0 : (0 : Int64).toInt = 0 := by decide
  rw [e0]
  constructor
  · rintro ⟨h1, h2⟩
    obtain ⟨k, hk, e⟩ := nI_of (x := i) (by rw [i_lt]; have : (0 : Int32).toInt = 0 := by decide
                                            omega)
    refine ⟨k, ?_, e⟩
    rw [e, nI_toInt hk] at h2
    omega
  · rintro ⟨k, hk, rfl⟩
    rw [nI_toInt (by omega)]
    omega
theorem in_niff {i : Int32} {n : Nat} (hn : n < 1000) (h : i.toInt64 < 0 ∨ (nI n - 1).toInt64 < i.toInt64) : ¬ ∃ k, k < n ∧ i = nI k := fun q => by
  have := (in_iff hn).mpr q
  exact h.elim this.1 this.2
set_option maxHeartbeats 4000000 in
set_option maxRecDepth 100000 in
theorem c_X4_in {w : Wd} {a c d : Int64} {Q : Option Value → Wd → Prop} (hT : (¬ a < c ∧ ¬ d < a) → Q (some (.int 1)) w) (hF : (a < c ∨ d < a) → Q (some (.int 0)) w) : V mX4_in 0 [some (.long a), none, some (.long c), none, some (.long d), none] [] w Q := by
  refine ll_6_0 1 dX4_in_0 rfl ?_
  refine ll_6_2 2 dX4_in_1 rfl ?_
  refine v_lcmp 3 dX4_in_2 rfl ?_
  refine v_if_lt 17 6 dX4_in_3 rfl rfl (fun h3 => ?_) (fun h3 => ?_)
  · refine v_iconst (v := 0) 18 dX4_in_17 rfl ki_0 ?_
    refine v_zret dX4_in_18 rfl (Or.inl rfl) ?_
    exact hF (Or.inl (lcmp_lt.mp h3))
  · refine ll_6_0 7 dX4_in_6 rfl ?_
    refine ll_6_4 9 dX4_in_7 rfl ?_
    refine v_lcmp 10 dX4_in_9 rfl ?_
    refine v_if_gt 17 13 dX4_in_10 rfl rfl (fun h10 => ?_) (fun h10 => ?_)
    · refine v_iconst (v := 0) 18 dX4_in_17 rfl ki_0 ?_
      refine v_zret dX4_in_18 rfl (Or.inl rfl) ?_
      exact hF (Or.inr (lcmp_gt.mp h10))
    · refine v_iconst (v := 1) 14 dX4_in_13 rfl ki_1 ?_
      refine v_goto 18 dX4_in_14 rfl ?_
      refine v_zret dX4_in_18 rfl (Or.inr rfl) ?_
      exact hT ⟨fun q => h3 (lcmp_lt.mpr q), fun q => h10 (lcmp_gt.mpr q)⟩
set_option maxHeartbeats 4000000 in
set_option maxRecDepth 100000 in
theorem c_X4_isStamp {l : Nat} {w : Wd} {P : PT} (hM : isM w l P) (hl : l < 2) {i : Int32} {Q : Option Value → Wd → Prop} (hT : (∃ k, k < P.1.1 ∧ i = nI k) → Q (some (.int 1)) w) (hF : (¬ ∃ k, k < P.1.1 ∧ i = nI k) → Q (some (.int 0)) w) : V mX4_isStamp 0 [some (.ref 1), some (.int i)] [] w Q := by
  have b5 := hM.2.2.1
  have b4 := hM.2.2.2.1
  refine li_2_1 1 dX4_isStamp_0 rfl ?_
  refine v_i2l 2 dX4_isStamp_1 rfl ?_
  refine v_lconst (v := 0) 3 dX4_isStamp_2 rfl rfl ?_
  refine la_2_0 4 dX4_isStamp_3 rfl ?_
  refine vgm_stamps hM hl rfl 7 dX4_isStamp_4 rfl ?_
  refine v_iconst (v := 1) 8 dX4_isStamp_7 rfl ki_1 ?_
  refine v_isub 9 dX4_isStamp_8 rfl ?_
  refine v_i2l 10 dX4_isStamp_9 rfl ?_
  refine v_cSI3 13 dX4_isStamp_10 rfl fvX4_in fsX4_in ml_X4_56 ⟨(Nat.le_of_ble_eq_true rfl), (Nat.le_of_ble_eq_true rfl)⟩ (Nat.le_of_ble_eq_true rfl) (Nat.le_of_ble_eq_true rfl) (c_X4_in (fun q10 => ⟨_, rfl, ?_⟩) (fun q10 => ⟨_, rfl, ?_⟩)) rfl
  · refine v_zret dX4_isStamp_13 rfl (Or.inr rfl) ?_
    exact hT ((in_iff (by omega)).mp q10)
  · refine v_zret dX4_isStamp_13 rfl (Or.inl rfl) ?_
    exact hF (in_niff (by omega) q10)
set_option maxHeartbeats 4000000 in
set_option maxRecDepth 100000 in
theorem c_X4_isLetter {l : Nat} {w : Wd} {P : PT} (hM : isM w l P) (hl : l < 2) {i : Int32} {Q : Option Value → Wd → Prop} (hT : (∃ k, k < P.1.2.1 ∧ i = nI k) → Q (some (.int 1)) w) (hF : (¬ ∃ k, k < P.1.2.1 ∧ i = nI k) → Q (some (.int 0)) w) : V mX4_isLetter 0 [some (.ref 1), some (.int i)] [] w Q := by
  have b5 := hM.2.2.1
  have b4 := hM.2.2.2.1
  refine li_2_1 1 dX4_isLetter_0 rfl ?_
  refine v_i2l 2 dX4_isLetter_1 rfl ?_
  refine v_lconst (v := 0) 3 dX4_isLetter_2 rfl rfl ?_
  refine la_2_0 4 dX4_isLetter_3 rfl ?_
  refine vgm_letters hM hl rfl 7 dX4_isLetter_4 rfl ?_
  refine v_iconst (v := 1) 8 dX4_isLetter_7 rfl ki_1 ?_
  refine v_isub 9 dX4_isLetter_8 rfl ?_
  refine v_i2l 10 dX4_isLetter_9 rfl ?_
  refine v_cSI3 13 dX4_isLetter_10 rfl fvX4_in fsX4_in ml_X4_56 ⟨(Nat.le_of_ble_eq_true rfl), (Nat.le_of_ble_eq_true rfl)⟩ (Nat.le_of_ble_eq_true rfl) (Nat.le_of_ble_eq_true rfl) (c_X4_in (fun q10 => ⟨_, rfl, ?_⟩) (fun q10 => ⟨_, rfl, ?_⟩)) rfl
  · refine v_zret dX4_isLetter_13 rfl (Or.inr rfl) ?_
    exact hT ((in_iff (by omega)).mp q10)
  · refine v_zret dX4_isLetter_13 rfl (Or.inl rfl) ?_
    exact hF (in_niff (by omega) q10)
set_option maxHeartbeats 4000000 in
set_option maxRecDepth 100000 in
theorem c_X4_span {l : Nat} {w : Wd} {P : PT} (hM : isM w l P) (hl : l < 2) {k : Nat} (hk : k < P.1.1) {Q : Option Value → Wd → Prop} (hQ : Q (some (.int (spanF (P.2 2 k) (P.2 1 k)))) w) : V mX4_span 0 [some (.ref 1), some (.int (nI l)), some (.int (nI k))] [] w Q := by
  have b5 := hM.2.2.1
  have b4 := hM.2.2.2.1
  refine v_bipush (v := 60) 2 dX4_span_0 rfl kb_60 ?_
  refine v_iconst (v := 3) 3 dX4_span_2 rfl ki_3 ?_
  refine la_3_0 4 dX4_span_3 rfl ?_
  refine vg_X4_16 rfl 7 dX4_span_4 rfl ?_
  refine v_bipush (v := 30) 9 dX4_span_7 rfl kb_30 ?_
  refine li_3_1 10 dX4_span_9 rfl ?_
  refine v_imul 11 dX4_span_10 rfl ?_
  refine v_iconst (v := 5) 12 dX4_span_11 rfl ki_5 ?_
  refine v_iadd 13 dX4_span_12 rfl ?_
  refine li_3_2 14 dX4_span_13 rfl ?_
  refine v_iadd 15 dX4_span_14 rfl ?_
  refine vmn_1 hM hl _ 16 dX4_span_15 rfl (ixB l 5 k) hk ?_
  refine v_imul 17 dX4_span_16 rfl ?_
  refine v_iadd 18 dX4_span_17 rfl ?_
  refine la_3_0 19 dX4_span_18 rfl ?_
  refine vg_X4_7 rfl 22 dX4_span_19 rfl ?_
  refine li_3_2 23 dX4_span_22 rfl ?_
  refine vmn_2 hM hl _ 24 dX4_span_23 rfl rfl hk ?_
  refine v_iconst (v := 1) 25 dX4_span_24 rfl ki_1 ?_
  refine v_icmp_ne 33 28 dX4_span_25 rfl rfl (fun h25 => ?_) (fun h25 => ?_)
  · refine la_3_0 34 dX4_span_33 rfl ?_
    refine vg_X4_7 rfl 37 dX4_span_34 rfl ?_
    refine li_3_2 38 dX4_span_37 rfl ?_
    refine vmn_2 hM hl _ 39 dX4_span_38 rfl rfl hk ?_
    refine v_iconst (v := 2) 40 dX4_span_39 rfl ki_2 ?_
    refine v_icmp_ne 48 43 dX4_span_40 rfl rfl (fun h40 => ?_) (fun h40 => ?_)
    · refine v_iconst (v := 0) 49 dX4_span_48 rfl ki_0 ?_
      refine v_iadd 50 dX4_span_49 rfl ?_
      refine v_iret dX4_span_50 rfl ?_
      simp only [spanF, *, if_true, if_false] at hQ
      exact hQ
    · refine v_bipush (v := 15) 45 dX4_span_43 rfl kb_15 ?_
      refine v_goto 49 dX4_span_45 rfl ?_
      refine v_iadd 50 dX4_span_49 rfl ?_
      refine v_iret dX4_span_50 rfl ?_
      simp only [spanF, *, if_true, if_false] at hQ
      exact hQ
  · refine v_bipush (v := 10) 30 dX4_span_28 rfl kb_10 ?_
    refine v_goto 49 dX4_span_30 rfl ?_
    refine v_iadd 50 dX4_span_49 rfl ?_
    refine v_iret dX4_span_50 rfl ?_
    simp only [spanF, *, if_true, if_false] at hQ
    exact hQ
set_option maxHeartbeats 4000000 in
set_option maxRecDepth 100000 in
theorem c_X4_isAlive {l : Nat} {w : Wd} {P : PT} (hM : isM w l P) (hl : l < 2) {k : Nat} (hk : k < P.1.1) {Q : Option Value → Wd → Prop} (hT : alP P k = true → Q (some (.int 1)) w) (hF : alP P k = false → Q (some (.int 0)) w) : V mX4_isAlive 0 [some (.ref 1), some (.int (nI l)), some (.int (nI k))] [] w Q := by
  have b5 := hM.2.2.1
  have b4 := hM.2.2.2.1
  refine la_3_0 1 dX4_isAlive_0 rfl ?_
  refine vg_X4_16 rfl 4 dX4_isAlive_1 rfl ?_
  refine v_bipush (v := 30) 6 dX4_isAlive_4 rfl kb_30 ?_
  refine li_3_1 7 dX4_isAlive_6 rfl ?_
  refine v_imul 8 dX4_isAlive_7 rfl ?_
  refine li_3_2 9 dX4_isAlive_8 rfl ?_
  refine v_iadd 10 dX4_isAlive_9 rfl ?_
  refine vmn_0 hM hl _ 11 dX4_isAlive_10 rfl (ixA l k) hk ?_
  refine la_3_0 12 dX4_isAlive_11 rfl ?_
  refine li_3_1 13 dX4_isAlive_12 rfl ?_
  refine li_3_2 14 dX4_isAlive_13 rfl ?_
  refine v_cVI2 17 dX4_isAlive_14 rfl fvX4_span fiX4_span ml_X4_105 (seX4) rfl ⟨(Nat.le_of_ble_eq_true rfl), (Nat.le_of_ble_eq_true rfl)⟩ (Nat.le_of_ble_eq_true rfl) (Nat.le_of_ble_eq_true rfl) (c_X4_span hM hl hk ⟨_, rfl, ?_⟩) rfl
  refine v_icmp_ge 24 20 dX4_isAlive_17 rfl rfl (fun h17 => ?_) (fun h17 => ?_)
  · refine v_iconst (v := 0) 25 dX4_isAlive_24 rfl ki_0 ?_
    refine v_zret dX4_isAlive_25 rfl (Or.inl rfl) ?_
    exact hF (by simpa [alP, i_nlt] using h17)
  · refine v_iconst (v := 1) 21 dX4_isAlive_20 rfl ki_1 ?_
    refine v_goto 25 dX4_isAlive_21 rfl ?_
    refine v_zret dX4_isAlive_25 rfl (Or.inr rfl) ?_
    exact hT (by simpa [alP] using i_nle.mp h17)
def clamp9 (v : Int32) : Int32 := if v ≤ 9 then v else 9
def rateM (k a : Int32) : Int32 := clamp9 (if k = 3 then 0 else if k = 1 then 1 else 2 + a / (if k = 2 then 10 else 20))
theorem min9_c (v : Int32) : min9 v = clamp9 v := by
  unfold min9 clamp9
  have e : (9 : Int32).toInt = 9 := by decide
  by_cases h1 : v < 9
  · have h2 : v ≤ 9 := by rw [i_lt] at h1; rw [i_le]; omega
    rw [if_pos h1, if_pos h2]
  · rw [if_neg h1]
    by_cases h2 : v ≤ 9
    · rw [if_pos h2]; rw [i_lt] at h1; rw [i_le] at h2; exact Int32.toInt_inj.mp (by omega)
    · rw [if_neg h2]
theorem rate_eq {k a : Int32} (h : k = 0 ∨ k = 1 ∨ k = 2 ∨ k = 3) : rateF k a = rateM k a := by
  rcases h with rfl | rfl | rfl | rfl
  · show min9 (2 + a / 20) = clamp9 (2 + a / 20); exact min9_c _
  · rfl
  · show min9 (2 + a / 10) = clamp9 (2 + a / 10); exact min9_c _
  · rfl
set_option maxHeartbeats 4000000 in
set_option maxRecDepth 100000 in
theorem c_X4_rate {l : Nat} {w : Wd} {P : PT} (hM : isM w l P) (hl : l < 2) (hkd : ∀ s, s < P.1.1 → P.2 2 s = 0 ∨ P.2 2 s = 1 ∨ P.2 2 s = 2 ∨ P.2 2 s = 3) {k : Nat} (hk : k < P.1.1) {Q : Option Value → Wd → Prop} (hQ : Q (some (.int (rateP P k))) w) : V mX4_rate 0 [some (.ref 1), some (.int (nI l)), some (.int (nI k)), none, none] [] w Q := by
  have b5 := hM.2.2.1
  have b4 := hM.2.2.2.1
  refine la_5_0 1 dX4_rate_0 rfl ?_
  refine vg_X4_16 rfl 4 dX4_rate_1 rfl ?_
  refine v_bipush (v := 30) 6 dX4_rate_4 rfl kb_30 ?_
  refine li_5_1 7 dX4_rate_6 rfl ?_
  refine v_imul 8 dX4_rate_7 rfl ?_
  refine li_5_2 9 dX4_rate_8 rfl ?_
  refine v_iadd 10 dX4_rate_9 rfl ?_
  refine vmn_0 hM hl _ 11 dX4_rate_10 rfl (ixA l k) hk ?_
  refine si_5_3 rfl 12 dX4_rate_11 rfl rfl ?_
  refine la_5_0 13 dX4_rate_12 rfl ?_
  refine vg_X4_7 rfl 16 dX4_rate_13 rfl ?_
  refine li_5_2 17 dX4_rate_16 rfl ?_
  refine vmn_2 hM hl _ 18 dX4_rate_17 rfl rfl hk ?_
  refine v_iconst (v := 3) 19 dX4_rate_18 rfl ki_3 ?_
  refine v_icmp_ne 26 22 dX4_rate_19 rfl rfl (fun h19 => ?_) (fun h19 => ?_)
  · refine la_5_0 27 dX4_rate_26 rfl ?_
    refine vg_X4_7 rfl 30 dX4_rate_27 rfl ?_
    refine li_5_2 31 dX4_rate_30 rfl ?_
    refine vmn_2 hM hl _ 32 dX4_rate_31 rfl rfl hk ?_
    refine v_iconst (v := 1) 33 dX4_rate_32 rfl ki_1 ?_
    refine v_icmp_ne 40 36 dX4_rate_33 rfl rfl (fun h33 => ?_) (fun h33 => ?_)
    · refine v_iconst (v := 2) 41 dX4_rate_40 rfl ki_2 ?_
      refine li_5_3 42 dX4_rate_41 rfl ?_
      refine la_5_0 43 dX4_rate_42 rfl ?_
      refine vg_X4_7 rfl 46 dX4_rate_43 rfl ?_
      refine li_5_2 47 dX4_rate_46 rfl ?_
      refine vmn_2 hM hl _ 48 dX4_rate_47 rfl rfl hk ?_
      refine v_iconst (v := 2) 49 dX4_rate_48 rfl ki_2 ?_
      refine v_icmp_ne 57 52 dX4_rate_49 rfl rfl (fun h49 => ?_) (fun h49 => ?_)
      · refine v_bipush (v := 20) 59 dX4_rate_57 rfl kb_20 ?_
        refine v_idiv 60 dX4_rate_59 rfl (by decide) ?_
        refine v_iadd 61 dX4_rate_60 rfl ?_
        refine si_5_4 rfl 63 dX4_rate_61 rfl rfl ?_
        refine li_5_4 65 dX4_rate_63 rfl ?_
        refine v_bipush (v := 9) 67 dX4_rate_65 rfl kb_9 ?_
        refine v_icmp_le 75 70 dX4_rate_67 rfl rfl (fun h67 => ?_) (fun h67 => ?_)
        · refine li_5_4 77 dX4_rate_75 rfl ?_
          refine v_iret dX4_rate_77 rfl ?_
          rw [show rateP P k = rateM (P.2 2 k) (P.2 0 k) from rate_eq (hkd k hk)] at hQ
          unfold rateM clamp9 at hQ
          first
            | exact absurd h67 (by decide)
            | (rw [if_neg h19, if_neg h33, if_pos h49, if_pos h67] at hQ; exact hQ)
            | (rw [if_neg h19, if_neg h33, if_pos h49, if_neg h67] at hQ; exact hQ)
            | (simp only [*, if_true, if_false, reduceIte] at hQ; exact hQ)
        · refine v_bipush (v := 9) 72 dX4_rate_70 rfl kb_9 ?_
          refine v_goto 77 dX4_rate_72 rfl ?_
          refine v_iret dX4_rate_77 rfl ?_
          rw [show rateP P k = rateM (P.2 2 k) (P.2 0 k) from rate_eq (hkd k hk)] at hQ
          unfold rateM clamp9 at hQ
          first
            | exact absurd h67 (by decide)
            | (rw [if_neg h19, if_neg h33, if_pos h49, if_pos h67] at hQ; exact hQ)
            | (rw [if_neg h19, if_neg h33, if_pos h49, if_neg h67] at hQ; exact hQ)
            | (simp only [*, if_true, if_false, reduceIte] at hQ; exact hQ)
      · refine v_bipush (v := 10) 54 dX4_rate_52 rfl kb_10 ?_
        refine v_goto 59 dX4_rate_54 rfl ?_
        refine v_idiv 60 dX4_rate_59 rfl (by decide) ?_
        refine v_iadd 61 dX4_rate_60 rfl ?_
        refine si_5_4 rfl 63 dX4_rate_61 rfl rfl ?_
        refine li_5_4 65 dX4_rate_63 rfl ?_
        refine v_bipush (v := 9) 67 dX4_rate_65 rfl kb_9 ?_
        refine v_icmp_le 75 70 dX4_rate_67 rfl rfl (fun h67 => ?_) (fun h67 => ?_)
        · refine li_5_4 77 dX4_rate_75 rfl ?_
          refine v_iret dX4_rate_77 rfl ?_
          rw [show rateP P k = rateM (P.2 2 k) (P.2 0 k) from rate_eq (hkd k hk)] at hQ
          unfold rateM clamp9 at hQ
          first
            | exact absurd h67 (by decide)
            | (rw [if_neg h19, if_neg h33, if_pos h49, if_pos h67] at hQ; exact hQ)
            | (rw [if_neg h19, if_neg h33, if_pos h49, if_neg h67] at hQ; exact hQ)
            | (simp only [*, if_true, if_false, reduceIte] at hQ; exact hQ)
        · refine v_bipush (v := 9) 72 dX4_rate_70 rfl kb_9 ?_
          refine v_goto 77 dX4_rate_72 rfl ?_
          refine v_iret dX4_rate_77 rfl ?_
          rw [show rateP P k = rateM (P.2 2 k) (P.2 0 k) from rate_eq (hkd k hk)] at hQ
          unfold rateM clamp9 at hQ
          first
            | exact absurd h67 (by decide)
            | (rw [if_neg h19, if_neg h33, if_pos h49, if_pos h67] at hQ; exact hQ)
            | (rw [if_neg h19, if_neg h33, if_pos h49, if_neg h67] at hQ; exact hQ)
            | (simp only [*, if_true, if_false, reduceIte] at hQ; exact hQ)
    · refine v_iconst (v := 1) 37 dX4_rate_36 rfl ki_1 ?_
      refine v_goto 61 dX4_rate_37 rfl ?_
      refine si_5_4 rfl 63 dX4_rate_61 rfl rfl ?_
      refine li_5_4 65 dX4_rate_63 rfl ?_
      refine v_bipush (v := 9) 67 dX4_rate_65 rfl kb_9 ?_
      refine v_icmp_le 75 70 dX4_rate_67 rfl rfl (fun h67 => ?_) (fun h67 => ?_)
      · refine li_5_4 77 dX4_rate_75 rfl ?_
        refine v_iret dX4_rate_77 rfl ?_
        rw [show rateP P k = rateM (P.2 2 k) (P.2 0 k) from rate_eq (hkd k hk)] at hQ
        unfold rateM clamp9 at hQ
        first
          | exact absurd h67 (by decide)
          | (rw [if_neg h19, if_neg h33, if_pos h49, if_pos h67] at hQ; exact hQ)
          | (rw [if_neg h19, if_neg h33, if_pos h49, if_neg h67] at hQ; exact hQ)
          | (simp only [*, if_true, if_false, reduceIte] at hQ; exact hQ)
      · refine v_bipush (v := 9) 72 dX4_rate_70 rfl kb_9 ?_
        refine v_goto 77 dX4_rate_72 rfl ?_
        refine v_iret dX4_rate_77 rfl ?_
        rw [show rateP P k = rateM (P.2 2 k) (P.2 0 k) from rate_eq (hkd k hk)] at hQ
        unfold rateM clamp9 at hQ
        first
          | exact absurd h67 (by decide)
          | (rw [if_neg h19, if_neg h33, if_pos h49, if_pos h67] at hQ; exact hQ)
          | (rw [if_neg h19, if_neg h33, if_pos h49, if_neg h67] at hQ; exact hQ)
          | (simp only [*, if_true, if_false, reduceIte] at hQ; exact hQ)
  · refine v_iconst (v := 0) 23 dX4_rate_22 rfl ki_0 ?_
    refine v_goto 61 dX4_rate_23 rfl ?_
    refine si_5_4 rfl 63 dX4_rate_61 rfl rfl ?_
    refine li_5_4 65 dX4_rate_63 rfl ?_
    refine v_bipush (v := 9) 67 dX4_rate_65 rfl kb_9 ?_
    refine v_icmp_le 75 70 dX4_rate_67 rfl rfl (fun h67 => ?_) (fun h67 => ?_)
    · refine li_5_4 77 dX4_rate_75 rfl ?_
      refine v_iret dX4_rate_77 rfl ?_
      rw [show rateP P k = rateM (P.2 2 k) (P.2 0 k) from rate_eq (hkd k hk)] at hQ
      unfold rateM clamp9 at hQ
      first
        | exact absurd h67 (by decide)
        | (rw [if_neg h19, if_neg h33, if_pos h49, if_pos h67] at hQ; exact hQ)
        | (rw [if_neg h19, if_neg h33, if_pos h49, if_neg h67] at hQ; exact hQ)
        | (simp only [*, if_true, if_false, reduceIte] at hQ; exact hQ)
    · refine v_bipush (v := 9) 72 dX4_rate_70 rfl kb_9 ?_
      refine v_goto 77 dX4_rate_72 rfl ?_
      refine v_iret dX4_rate_77 rfl ?_
      rw [show rateP P k = rateM (P.2 2 k) (P.2 0 k) from rate_eq (hkd k hk)] at hQ
      unfold rateM clamp9 at hQ
      first
        | exact absurd h67 (by decide)
        | (rw [if_neg h19, if_neg h33, if_pos h49, if_pos h67] at hQ; exact hQ)
        | (rw [if_neg h19, if_neg h33, if_pos h49, if_neg h67] at hQ; exact hQ)
        | (simp only [*, if_true, if_false, reduceIte] at hQ; exact hQ)
set_option maxHeartbeats 4000000 in
set_option maxRecDepth 100000 in
theorem c_X4_living {l : Nat} {w : Wd} {P : PT} (hM : isM w l P) (hl : l < 2)  {Q : Option Value → Wd → Prop} (hQ : Q (some (.int (aliveP P))) w) : V mX4_living 0 [some (.ref 1), some (.int (nI l)), none, none] [] w Q := by
  have b5 := hM.2.2.1
  have b4 := hM.2.2.2.1
  have key : ∀ i, i ≤ P.1.1 → V mX4_living 4 [some (.ref 1), some (.int (nI l)), some (.int (orB (alP P) i)), some (.int (nI i))] [] w Q := by
    refine up (fun i hi ih => ?_)
    refine li_4_3 5 dX4_living_4 rfl ?_
    refine la_4_0 6 dX4_living_5 rfl ?_
    refine vgm_stamps hM hl rfl 9 dX4_living_6 rfl ?_
    refine v_icmp_ge 37 12 dX4_living_9 rfl rfl (fun h9 => ?_) (fun h9 => ?_)
    · obtain rfl := ge_eq h9 hi (by omega)
      refine li_4_2 38 dX4_living_37 rfl ?_
      refine v_iret dX4_living_38 rfl ?_
      exact hQ
    · have hlt := ge_lt h9 (by omega) (by omega)
      refine li_4_2 13 dX4_living_12 rfl ?_
      refine la_4_0 14 dX4_living_13 rfl ?_
      refine li_4_1 15 dX4_living_14 rfl ?_
      refine li_4_3 16 dX4_living_15 rfl ?_
      refine v_cVI2 19 dX4_living_16 rfl fvX4_isAlive fiX4_isAlive ml_X4_109 (seX4) rfl ⟨(Nat.le_of_ble_eq_true rfl), (Nat.le_of_ble_eq_true rfl)⟩ (Nat.le_of_ble_eq_true rfl) (Nat.le_of_ble_eq_true rfl) (c_X4_isAlive hM hl (by omega) (fun q16 => ⟨_, rfl, ?_⟩) (fun q16 => ⟨_, rfl, ?_⟩)) rfl
      · refine v_if_eq 28 22 dX4_living_19 rfl rfl (fun h => absurd h (by decide)) (fun _ => ?_)
        refine v_iconst (v := 1) 23 dX4_living_22 rfl ki_1 ?_
        refine li_4_3 24 dX4_living_23 rfl ?_
        refine v_ishl 25 dX4_living_24 rfl ?_
        refine v_goto 29 dX4_living_25 rfl ?_
        refine v_ior 30 dX4_living_29 rfl ?_
        refine si_4_2 rfl 31 dX4_living_30 rfl rfl ?_
        refine icn_4_3 rfl 34 dX4_living_31 rfl rfl ?_
        refine v_goto 4 dX4_living_34 rfl ?_
        have e := ih hlt
        simp only [orB, suB, bit, q16, decide_true, decide_false, Bool.true_and, Bool.false_and, Bool.and_true, Bool.and_false, not_true_eq_false, not_false_eq_true, reduceIte, Bool.false_eq_true] at e
        exact e
      · refine v_if_eq 28 22 dX4_living_19 rfl rfl (fun _ => ?_) (fun h => absurd rfl h)
        refine v_iconst (v := 0) 29 dX4_living_28 rfl ki_0 ?_
        refine v_ior 30 dX4_living_29 rfl ?_
        refine si_4_2 rfl 31 dX4_living_30 rfl rfl ?_
        refine icn_4_3 rfl 34 dX4_living_31 rfl rfl ?_
        refine v_goto 4 dX4_living_34 rfl ?_
        have e := ih hlt
        simp only [orB, suB, bit, q16, decide_true, decide_false, Bool.true_and, Bool.false_and, Bool.and_true, Bool.and_false, not_true_eq_false, not_false_eq_true, reduceIte, Bool.false_eq_true] at e
        exact e
  refine v_iconst (v := 0) 1 dX4_living_0 rfl ki_0 ?_
  refine si_4_2 rfl 2 dX4_living_1 rfl rfl ?_
  refine v_iconst (v := 0) 3 dX4_living_2 rfl ki_0 ?_
  refine si_4_3 rfl 4 dX4_living_3 rfl rfl ?_
  exact key 0 (Nat.zero_le _)
set_option maxHeartbeats 4000000 in
set_option maxRecDepth 100000 in
theorem c_X4_onLetter {l : Nat} {w : Wd} {P : PT} (hM : isM w l P) (hl : l < 2) {x : Int32} {Q : Option Value → Wd → Prop} (hQ : Q (some (.int (stuckP P x))) w) : V mX4_onLetter 0 [some (.ref 1), some (.int (nI l)), some (.int x), none, none] [] w Q := by
  have b5 := hM.2.2.1
  have b4 := hM.2.2.2.1
  have key : ∀ i, i ≤ P.1.1 → V mX4_onLetter 5 [some (.ref 1), some (.int (nI l)), some (.int x), some (.int (orB (fun s => decide (P.2 4 s = x)) i)), some (.int (nI i))] [] w Q := by
    refine up (fun i hi ih => ?_)
    refine li_5_4 7 dX4_onLetter_5 rfl ?_
    refine la_5_0 8 dX4_onLetter_7 rfl ?_
    refine vgm_stamps hM hl rfl 11 dX4_onLetter_8 rfl ?_
    refine v_icmp_ge 50 14 dX4_onLetter_11 rfl rfl (fun h11 => ?_) (fun h11 => ?_)
    · obtain rfl := ge_eq h11 hi (by omega)
      refine li_5_3 51 dX4_onLetter_50 rfl ?_
      refine v_iret dX4_onLetter_51 rfl ?_
      exact hQ
    · have hlt := ge_lt h11 (by omega) (by omega)
      refine li_5_3 15 dX4_onLetter_14 rfl ?_
      refine la_5_0 16 dX4_onLetter_15 rfl ?_
      refine vg_X4_16 rfl 19 dX4_onLetter_16 rfl ?_
      refine v_bipush (v := 30) 21 dX4_onLetter_19 rfl kb_30 ?_
      refine li_5_1 22 dX4_onLetter_21 rfl ?_
      refine v_imul 23 dX4_onLetter_22 rfl ?_
      refine v_bipush (v := 15) 25 dX4_onLetter_23 rfl kb_15 ?_
      refine v_iadd 26 dX4_onLetter_25 rfl ?_
      refine li_5_4 28 dX4_onLetter_26 rfl ?_
      refine v_iadd 29 dX4_onLetter_28 rfl ?_
      refine vmn_4 hM hl _ 30 dX4_onLetter_29 rfl (ixB l 15 i) hlt ?_
      refine li_5_2 31 dX4_onLetter_30 rfl ?_
      refine v_icmp_ne 41 34 dX4_onLetter_31 rfl rfl (fun h31 => ?_) (fun h31 => ?_)
      · refine v_iconst (v := 0) 42 dX4_onLetter_41 rfl ki_0 ?_
        refine v_ior 43 dX4_onLetter_42 rfl ?_
        refine si_5_3 rfl 44 dX4_onLetter_43 rfl rfl ?_
        refine icn_5_4 rfl 47 dX4_onLetter_44 rfl rfl ?_
        refine v_goto 5 dX4_onLetter_47 rfl ?_
        have e := ih hlt
        simp only [orB, suB, bit, h31, decide_true, decide_false, Bool.true_and, Bool.false_and, Bool.and_true, Bool.and_false, not_true_eq_false, not_false_eq_true, reduceIte, Bool.false_eq_true] at e
        exact e
      · refine v_iconst (v := 1) 35 dX4_onLetter_34 rfl ki_1 ?_
        refine li_5_4 37 dX4_onLetter_35 rfl ?_
        refine v_ishl 38 dX4_onLetter_37 rfl ?_
        refine v_goto 42 dX4_onLetter_38 rfl ?_
        refine v_ior 43 dX4_onLetter_42 rfl ?_
        refine si_5_3 rfl 44 dX4_onLetter_43 rfl rfl ?_
        refine icn_5_4 rfl 47 dX4_onLetter_44 rfl rfl ?_
        refine v_goto 5 dX4_onLetter_47 rfl ?_
        have e := ih hlt
        simp only [orB, suB, bit, h31, decide_true, decide_false, Bool.true_and, Bool.false_and, Bool.and_true, Bool.and_false, not_true_eq_false, not_false_eq_true, reduceIte, Bool.false_eq_true] at e
        exact e
  refine v_iconst (v := 0) 1 dX4_onLetter_0 rfl ki_0 ?_
  refine si_5_3 rfl 2 dX4_onLetter_1 rfl rfl ?_
  refine v_iconst (v := 0) 3 dX4_onLetter_2 rfl ki_0 ?_
  refine si_5_4 rfl 5 dX4_onLetter_3 rfl rfl ?_
  exact key 0 (Nat.zero_le _)
set_option maxHeartbeats 4000000 in
set_option maxRecDepth 100000 in
theorem c_X4_goodFor {l : Nat} {w : Wd} {P : PT} (hM : isM w l P) (hl : l < 2) (hkd : ∀ s, s < P.1.1 → P.2 2 s = 0 ∨ P.2 2 s = 1 ∨ P.2 2 s = 2 ∨ P.2 2 s = 3) {x : Int32} {Q : Option Value → Wd → Prop} (hQ : Q (some (.int (goodP P x))) w) : V mX4_goodFor 0 [some (.ref 1), some (.int (nI l)), some (.int x), none, none] [] w Q := by
  have b5 := hM.2.2.1
  have b4 := hM.2.2.2.1
  have key : ∀ i, i ≤ P.1.1 → V mX4_goodFor 5 [some (.ref 1), some (.int (nI l)), some (.int x), some (.int (suB (fun s => if bit x s && alP P s then rateP P s else 0) i)), some (.int (nI i))] [] w Q := by
    refine up (fun i hi ih => ?_)
    refine li_5_4 7 dX4_goodFor_5 rfl ?_
    refine la_5_0 8 dX4_goodFor_7 rfl ?_
    refine vgm_stamps hM hl rfl 11 dX4_goodFor_8 rfl ?_
    refine v_icmp_ge 53 14 dX4_goodFor_11 rfl rfl (fun h11 => ?_) (fun h11 => ?_)
    · obtain rfl := ge_eq h11 hi (by omega)
      refine li_5_3 54 dX4_goodFor_53 rfl ?_
      refine v_iret dX4_goodFor_54 rfl ?_
      exact hQ
    · have hlt := ge_lt h11 (by omega) (by omega)
      refine li_5_3 15 dX4_goodFor_14 rfl ?_
      refine li_5_2 16 dX4_goodFor_15 rfl ?_
      refine li_5_4 18 dX4_goodFor_16 rfl ?_
      refine v_cSI2 21 dX4_goodFor_18 rfl fvX4_has fsX4_has ml_X4_71 ⟨(Nat.le_of_ble_eq_true rfl), (Nat.le_of_ble_eq_true rfl)⟩ (Nat.le_of_ble_eq_true rfl) (Nat.le_of_ble_eq_true rfl) (c_X4_has (fun q18 => ⟨_, rfl, ?_⟩) (fun q18 => ⟨_, rfl, ?_⟩)) rfl
      · refine v_if_eq 44 24 dX4_goodFor_21 rfl rfl (fun h => absurd h (by decide)) (fun _ => ?_)
        refine la_5_0 25 dX4_goodFor_24 rfl ?_
        refine li_5_1 26 dX4_goodFor_25 rfl ?_
        refine li_5_4 28 dX4_goodFor_26 rfl ?_
        refine v_cVI2 31 dX4_goodFor_28 rfl fvX4_isAlive fiX4_isAlive ml_X4_109 (seX4) rfl ⟨(Nat.le_of_ble_eq_true rfl), (Nat.le_of_ble_eq_true rfl)⟩ (Nat.le_of_ble_eq_true rfl) (Nat.le_of_ble_eq_true rfl) (c_X4_isAlive hM hl (by omega) (fun q28 => ⟨_, rfl, ?_⟩) (fun q28 => ⟨_, rfl, ?_⟩)) rfl
        · refine v_if_eq 44 34 dX4_goodFor_31 rfl rfl (fun h => absurd h (by decide)) (fun _ => ?_)
          refine la_5_0 35 dX4_goodFor_34 rfl ?_
          refine li_5_1 36 dX4_goodFor_35 rfl ?_
          refine li_5_4 38 dX4_goodFor_36 rfl ?_
          refine v_cVI2 41 dX4_goodFor_38 rfl fvX4_rate fiX4_rate ml_X4_112 (seX4) rfl ⟨(Nat.le_of_ble_eq_true rfl), (Nat.le_of_ble_eq_true rfl)⟩ (Nat.le_of_ble_eq_true rfl) (Nat.le_of_ble_eq_true rfl) (c_X4_rate hM hl hkd hlt ⟨_, rfl, ?_⟩) rfl
          refine v_goto 45 dX4_goodFor_41 rfl ?_
          refine v_iadd 46 dX4_goodFor_45 rfl ?_
          refine si_5_3 rfl 47 dX4_goodFor_46 rfl rfl ?_
          refine icn_5_4 rfl 50 dX4_goodFor_47 rfl rfl ?_
          refine v_goto 5 dX4_goodFor_50 rfl ?_
          have e := ih hlt
          simp only [orB, suB, q18, q28, decide_true, decide_false, Bool.true_and, Bool.false_and, Bool.and_true, Bool.and_false, not_true_eq_false, not_false_eq_true, reduceIte, Bool.false_eq_true] at e
          exact e
        · refine v_if_eq 44 34 dX4_goodFor_31 rfl rfl (fun _ => ?_) (fun h => absurd rfl h)
          refine v_iconst (v := 0) 45 dX4_goodFor_44 rfl ki_0 ?_
          refine v_iadd 46 dX4_goodFor_45 rfl ?_
          refine si_5_3 rfl 47 dX4_goodFor_46 rfl rfl ?_
          refine icn_5_4 rfl 50 dX4_goodFor_47 rfl rfl ?_
          refine v_goto 5 dX4_goodFor_50 rfl ?_
          have e := ih hlt
          simp only [orB, suB, q18, q28, decide_true, decide_false, Bool.true_and, Bool.false_and, Bool.and_true, Bool.and_false, not_true_eq_false, not_false_eq_true, reduceIte, Bool.false_eq_true] at e
          exact e
      · refine v_if_eq 44 24 dX4_goodFor_21 rfl rfl (fun _ => ?_) (fun h => absurd rfl h)
        refine v_iconst (v := 0) 45 dX4_goodFor_44 rfl ki_0 ?_
        refine v_iadd 46 dX4_goodFor_45 rfl ?_
        refine si_5_3 rfl 47 dX4_goodFor_46 rfl rfl ?_
        refine icn_5_4 rfl 50 dX4_goodFor_47 rfl rfl ?_
        refine v_goto 5 dX4_goodFor_50 rfl ?_
        have e := ih hlt
        simp only [orB, suB, q18, decide_true, decide_false, Bool.true_and, Bool.false_and, Bool.and_true, Bool.and_false, not_true_eq_false, not_false_eq_true, reduceIte, Bool.false_eq_true] at e
        exact e
  refine v_iconst (v := 0) 1 dX4_goodFor_0 rfl ki_0 ?_
  refine si_5_3 rfl 2 dX4_goodFor_1 rfl rfl ?_
  refine v_iconst (v := 0) 3 dX4_goodFor_2 rfl ki_0 ?_
  refine si_5_4 rfl 5 dX4_goodFor_3 rfl rfl ?_
  exact key 0 (Nat.zero_le _)
set_option maxHeartbeats 4000000 in
set_option maxRecDepth 100000 in
theorem c_X4_widows {l : Nat} {w : Wd} {P : PT} (hM : isM w l P) (hl : l < 2)  {Q : Option Value → Wd → Prop} (hQ : Q (some (.int (widP P))) w) : V mX4_widows 0 [some (.ref 1), some (.int (nI l)), none, none, none] [] w Q := by
  have b5 := hM.2.2.1
  have b4 := hM.2.2.2.1
  have key : ∀ i, i ≤ P.1.1 → V mX4_widows 11 [some (.ref 1), some (.int (nI l)), some (.int (aliveP P)), some (.int (orB (fun s => bit (aliveP P) s && decide (¬ P.2 3 s &&& (aliveP P ^^^ (-1)) = 0)) i)), some (.int (nI i))] [] w Q := by
    refine up (fun i hi ih => ?_)
    refine li_5_4 13 dX4_widows_11 rfl ?_
    refine la_5_0 14 dX4_widows_13 rfl ?_
    refine vgm_stamps hM hl rfl 17 dX4_widows_14 rfl ?_
    refine v_icmp_ge 68 20 dX4_widows_17 rfl rfl (fun h17 => ?_) (fun h17 => ?_)
    · obtain rfl := ge_eq h17 hi (by omega)
      refine li_5_3 69 dX4_widows_68 rfl ?_
      refine v_iret dX4_widows_69 rfl ?_
      exact hQ
    · have hlt := ge_lt h17 (by omega) (by omega)
      refine li_5_3 21 dX4_widows_20 rfl ?_
      refine li_5_2 22 dX4_widows_21 rfl ?_
      refine li_5_4 24 dX4_widows_22 rfl ?_
      refine v_cSI2 27 dX4_widows_24 rfl fvX4_has fsX4_has ml_X4_71 ⟨(Nat.le_of_ble_eq_true rfl), (Nat.le_of_ble_eq_true rfl)⟩ (Nat.le_of_ble_eq_true rfl) (Nat.le_of_ble_eq_true rfl) (c_X4_has (fun q24 => ⟨_, rfl, ?_⟩) (fun q24 => ⟨_, rfl, ?_⟩)) rfl
      · refine v_if_eq 59 30 dX4_widows_27 rfl rfl (fun h => absurd h (by decide)) (fun _ => ?_)
        refine la_5_0 31 dX4_widows_30 rfl ?_
        refine vg_X4_16 rfl 34 dX4_widows_31 rfl ?_
        refine v_bipush (v := 30) 36 dX4_widows_34 rfl kb_30 ?_
        refine li_5_1 37 dX4_widows_36 rfl ?_
        refine v_imul 38 dX4_widows_37 rfl ?_
        refine v_bipush (v := 10) 40 dX4_widows_38 rfl kb_10 ?_
        refine v_iadd 41 dX4_widows_40 rfl ?_
        refine li_5_4 43 dX4_widows_41 rfl ?_
        refine v_iadd 44 dX4_widows_43 rfl ?_
        refine vmn_3 hM hl _ 45 dX4_widows_44 rfl (ixB l 10 i) hlt ?_
        refine li_5_2 46 dX4_widows_45 rfl ?_
        refine v_iconst (v := (-1)) 47 dX4_widows_46 rfl ki_m1 ?_
        refine v_ixor 48 dX4_widows_47 rfl ?_
        refine v_iand 49 dX4_widows_48 rfl ?_
        refine v_if_eq 59 52 dX4_widows_49 rfl rfl (fun h49 => ?_) (fun h49 => ?_)
        · refine v_iconst (v := 0) 60 dX4_widows_59 rfl ki_0 ?_
          refine v_ior 61 dX4_widows_60 rfl ?_
          refine si_5_3 rfl 62 dX4_widows_61 rfl rfl ?_
          refine icn_5_4 rfl 65 dX4_widows_62 rfl rfl ?_
          refine v_goto 11 dX4_widows_65 rfl ?_
          have e := ih hlt
          simp only [orB, suB, q24, h49, decide_true, decide_false, Bool.true_and, Bool.false_and, Bool.and_true, Bool.and_false, not_true_eq_false, not_false_eq_true, reduceIte, Bool.false_eq_true] at e
          exact e
        · refine v_iconst (v := 1) 53 dX4_widows_52 rfl ki_1 ?_
          refine li_5_4 55 dX4_widows_53 rfl ?_
          refine v_ishl 56 dX4_widows_55 rfl ?_
          refine v_goto 60 dX4_widows_56 rfl ?_
          refine v_ior 61 dX4_widows_60 rfl ?_
          refine si_5_3 rfl 62 dX4_widows_61 rfl rfl ?_
          refine icn_5_4 rfl 65 dX4_widows_62 rfl rfl ?_
          refine v_goto 11 dX4_widows_65 rfl ?_
          have e := ih hlt
          simp only [orB, suB, q24, h49, decide_true, decide_false, Bool.true_and, Bool.false_and, Bool.and_true, Bool.and_false, not_true_eq_false, not_false_eq_true, reduceIte, Bool.false_eq_true] at e
          exact e
      · refine v_if_eq 59 30 dX4_widows_27 rfl rfl (fun _ => ?_) (fun h => absurd rfl h)
        refine v_iconst (v := 0) 60 dX4_widows_59 rfl ki_0 ?_
        refine v_ior 61 dX4_widows_60 rfl ?_
        refine si_5_3 rfl 62 dX4_widows_61 rfl rfl ?_
        refine icn_5_4 rfl 65 dX4_widows_62 rfl rfl ?_
        refine v_goto 11 dX4_widows_65 rfl ?_
        have e := ih hlt
        simp only [orB, suB, q24, decide_true, decide_false, Bool.true_and, Bool.false_and, Bool.and_true, Bool.and_false, not_true_eq_false, not_false_eq_true, reduceIte, Bool.false_eq_true] at e
        exact e
  refine la_5_0 1 dX4_widows_0 rfl ?_
  refine li_5_1 2 dX4_widows_1 rfl ?_
  refine v_cVI1 5 dX4_widows_2 rfl fvX4_living fiX4_living ml_X4_115 (seX4) rfl ⟨(Nat.le_of_ble_eq_true rfl), (Nat.le_of_ble_eq_true rfl)⟩ (Nat.le_of_ble_eq_true rfl) (Nat.le_of_ble_eq_true rfl) (c_X4_living hM hl ⟨_, rfl, ?_⟩) rfl
  refine si_5_2 rfl 6 dX4_widows_5 rfl rfl ?_
  refine v_iconst (v := 0) 7 dX4_widows_6 rfl ki_0 ?_
  refine si_5_3 rfl 8 dX4_widows_7 rfl rfl ?_
  refine v_iconst (v := 0) 9 dX4_widows_8 rfl ki_0 ?_
  refine si_5_4 rfl 11 dX4_widows_9 rfl rfl ?_
  exact key 0 (Nat.zero_le _)
set_option maxHeartbeats 4000000 in
set_option maxRecDepth 100000 in
theorem c_X4_isFree {l : Nat} {w : Wd} {P : PT} (hM : isM w l P) (hl : l < 2) {k : Nat} (hk : k < P.1.1) {Q : Option Value → Wd → Prop} (hT : (alP P k && decide (P.2 4 k = -9)) = true → Q (some (.int 1)) w) (hF : (alP P k && decide (P.2 4 k = -9)) = false → Q (some (.int 0)) w) : V mX4_isFree 0 [some (.ref 1), some (.int (nI l)), some (.int (nI k))] [] w Q := by
  have b5 := hM.2.2.1
  have b4 := hM.2.2.2.1
  refine la_3_0 1 dX4_isFree_0 rfl ?_
  refine li_3_1 2 dX4_isFree_1 rfl ?_
  refine li_3_2 3 dX4_isFree_2 rfl ?_
  refine v_cVI2 6 dX4_isFree_3 rfl fvX4_isAlive fiX4_isAlive ml_X4_109 (seX4) rfl ⟨(Nat.le_of_ble_eq_true rfl), (Nat.le_of_ble_eq_true rfl)⟩ (Nat.le_of_ble_eq_true rfl) (Nat.le_of_ble_eq_true rfl) (c_X4_isAlive hM hl hk (fun q3 => ⟨_, rfl, ?_⟩) (fun q3 => ⟨_, rfl, ?_⟩)) rfl
  · refine v_if_eq 32 9 dX4_isFree_6 rfl rfl (fun h => absurd h (by decide)) (fun _ => ?_)
    refine la_3_0 10 dX4_isFree_9 rfl ?_
    refine vg_X4_16 rfl 13 dX4_isFree_10 rfl ?_
    refine v_bipush (v := 30) 15 dX4_isFree_13 rfl kb_30 ?_
    refine li_3_1 16 dX4_isFree_15 rfl ?_
    refine v_imul 17 dX4_isFree_16 rfl ?_
    refine v_bipush (v := 15) 19 dX4_isFree_17 rfl kb_15 ?_
    refine v_iadd 20 dX4_isFree_19 rfl ?_
    refine li_3_2 21 dX4_isFree_20 rfl ?_
    refine v_iadd 22 dX4_isFree_21 rfl ?_
    refine vmn_4 hM hl _ 23 dX4_isFree_22 rfl (ixB l 15 k) hk ?_
    refine v_bipush (v := (-9)) 25 dX4_isFree_23 rfl kb_m9 ?_
    refine v_icmp_ne 32 28 dX4_isFree_25 rfl rfl (fun h25 => ?_) (fun h25 => ?_)
    · refine v_iconst (v := 0) 33 dX4_isFree_32 rfl ki_0 ?_
      refine v_zret dX4_isFree_33 rfl (Or.inl rfl) ?_
      exact hF (by simp [q3, h25])
    · refine v_iconst (v := 1) 29 dX4_isFree_28 rfl ki_1 ?_
      refine v_goto 33 dX4_isFree_29 rfl ?_
      refine v_zret dX4_isFree_33 rfl (Or.inr rfl) ?_
      exact hT (by simp [q3, h25])
  · refine v_if_eq 32 9 dX4_isFree_6 rfl rfl (fun _ => ?_) (fun h => absurd rfl h)
    refine v_iconst (v := 0) 33 dX4_isFree_32 rfl ki_0 ?_
    refine v_zret dX4_isFree_33 rfl (Or.inl rfl) ?_
    exact hF (by simp [q3])
set_option maxHeartbeats 4000000 in
set_option maxRecDepth 100000 in
theorem c_X4_canStick {l : Nat} {w : Wd} {P : PT} (hM : isM w l P) (hl : l < 2) {i m : Int32} {Q : Option Value → Wd → Prop} (hT : stickQ P i m → Q (some (.int 1)) w) (hF : ¬ stickQ P i m → Q (some (.int 0)) w) : V mX4_canStick 0 [some (.ref 1), some (.int (nI l)), some (.int i), some (.int m)] [] w Q := by
  have b5 := hM.2.2.1
  have b4 := hM.2.2.2.1
  refine la_4_0 1 dX4_canStick_0 rfl ?_
  refine li_4_2 2 dX4_canStick_1 rfl ?_
  refine v_cVI1 5 dX4_canStick_2 rfl fvX4_isStamp fiX4_isStamp ml_X4_128 (seX4) rfl ⟨(Nat.le_of_ble_eq_true rfl), (Nat.le_of_ble_eq_true rfl)⟩ (Nat.le_of_ble_eq_true rfl) (Nat.le_of_ble_eq_true rfl) (c_X4_isStamp hM hl (fun q2 => ⟨_, rfl, ?_⟩) (fun q2 => ⟨_, rfl, ?_⟩)) rfl
  · obtain ⟨k, hk, rfl⟩ := q2
    refine v_if_eq 46 8 dX4_canStick_5 rfl rfl (fun h => absurd h (by decide)) (fun _ => ?_)
    refine la_4_0 9 dX4_canStick_8 rfl ?_
    refine li_4_3 10 dX4_canStick_9 rfl ?_
    refine v_cVI1 13 dX4_canStick_10 rfl fvX4_isLetter fiX4_isLetter ml_X4_132 (seX4) rfl ⟨(Nat.le_of_ble_eq_true rfl), (Nat.le_of_ble_eq_true rfl)⟩ (Nat.le_of_ble_eq_true rfl) (Nat.le_of_ble_eq_true rfl) (c_X4_isLetter hM hl (fun q10 => ⟨_, rfl, ?_⟩) (fun q10 => ⟨_, rfl, ?_⟩)) rfl
    · obtain ⟨m, hm, rfl⟩ := q10
      refine v_if_eq 46 16 dX4_canStick_13 rfl rfl (fun h => absurd h (by decide)) (fun _ => ?_)
      refine la_4_0 17 dX4_canStick_16 rfl ?_
      refine li_4_1 18 dX4_canStick_17 rfl ?_
      refine li_4_2 19 dX4_canStick_18 rfl ?_
      refine v_cVI2 22 dX4_canStick_19 rfl fvX4_isFree fiX4_isFree ml_X4_150 (seX4) rfl ⟨(Nat.le_of_ble_eq_true rfl), (Nat.le_of_ble_eq_true rfl)⟩ (Nat.le_of_ble_eq_true rfl) (Nat.le_of_ble_eq_true rfl) (c_X4_isFree hM hl hk (fun q19 => ⟨_, rfl, ?_⟩) (fun q19 => ⟨_, rfl, ?_⟩)) rfl
      · refine v_if_eq 46 25 dX4_canStick_22 rfl rfl (fun h => absurd h (by decide)) (fun _ => ?_)
        refine la_4_0 26 dX4_canStick_25 rfl ?_
        refine vg_X4_16 rfl 29 dX4_canStick_26 rfl ?_
        refine v_bipush (v := 30) 31 dX4_canStick_29 rfl kb_30 ?_
        refine li_4_1 32 dX4_canStick_31 rfl ?_
        refine v_imul 33 dX4_canStick_32 rfl ?_
        refine v_bipush (v := 24) 35 dX4_canStick_33 rfl kb_24 ?_
        refine v_iadd 36 dX4_canStick_35 rfl ?_
        refine li_4_3 37 dX4_canStick_36 rfl ?_
        refine v_iadd 38 dX4_canStick_37 rfl ?_
        refine vmn_7 hM hl _ 39 dX4_canStick_38 rfl (ixB l 24 m) hm ?_
        refine v_if_ne 46 42 dX4_canStick_39 rfl rfl (fun h39 => ?_) (fun h39 => ?_)
        · refine v_iconst (v := 0) 47 dX4_canStick_46 rfl ki_0 ?_
          refine v_zret dX4_canStick_47 rfl (Or.inl rfl) ?_
          exact hF (by rw [stickQ_i b5 b4 hk hm]; exact fun q => h39 q.2.2)
        · refine v_iconst (v := 1) 43 dX4_canStick_42 rfl ki_1 ?_
          refine v_goto 47 dX4_canStick_43 rfl ?_
          refine v_zret dX4_canStick_47 rfl (Or.inr rfl) ?_
          exact hT ((stickQ_i b5 b4 hk hm).mpr (by simp at q19; exact ⟨q19.1, q19.2, h39⟩))
      · refine v_if_eq 46 25 dX4_canStick_22 rfl rfl (fun _ => ?_) (fun h => absurd rfl h)
        refine v_iconst (v := 0) 47 dX4_canStick_46 rfl ki_0 ?_
        refine v_zret dX4_canStick_47 rfl (Or.inl rfl) ?_
        exact hF (by rw [stickQ_i b5 b4 hk hm]; intro kq; rw [kq.1, kq.2.1] at q19; exact absurd q19 (by decide))
    · refine v_if_eq 46 16 dX4_canStick_13 rfl rfl (fun _ => ?_) (fun h => absurd rfl h)
      refine v_iconst (v := 0) 47 dX4_canStick_46 rfl ki_0 ?_
      refine v_zret dX4_canStick_47 rfl (Or.inl rfl) ?_
      exact hF (fun ⟨_, m, _, hm, _, e, _⟩ => q10 ⟨m, hm, e⟩)
  · refine v_if_eq 46 8 dX4_canStick_5 rfl rfl (fun _ => ?_) (fun h => absurd rfl h)
    refine v_iconst (v := 0) 47 dX4_canStick_46 rfl ki_0 ?_
    refine v_zret dX4_canStick_47 rfl (Or.inl rfl) ?_
    exact hF (fun ⟨k, _, hk, _, e, _⟩ => q2 ⟨k, hk, e⟩)
set_option maxHeartbeats 4000000 in
set_option maxRecDepth 100000 in
theorem c_X4_canSend {l : Nat} {w : Wd} {P : PT} (hM : isM w l P) (hl : l < 2) (hkd : ∀ s, s < P.1.1 → P.2 2 s = 0 ∨ P.2 2 s = 1 ∨ P.2 2 s = 2 ∨ P.2 2 s = 3) {m : Int32} {Q : Option Value → Wd → Prop} (hT : sendQ P m → Q (some (.int 1)) w) (hF : ¬ sendQ P m → Q (some (.int 0)) w) : V mX4_canSend 0 [some (.ref 1), some (.int (nI l)), some (.int m)] [] w Q := by
  have b5 := hM.2.2.1
  have b4 := hM.2.2.2.1
  refine la_3_0 1 dX4_canSend_0 rfl ?_
  refine li_3_2 2 dX4_canSend_1 rfl ?_
  refine v_cVI1 5 dX4_canSend_2 rfl fvX4_isLetter fiX4_isLetter ml_X4_132 (seX4) rfl ⟨(Nat.le_of_ble_eq_true rfl), (Nat.le_of_ble_eq_true rfl)⟩ (Nat.le_of_ble_eq_true rfl) (Nat.le_of_ble_eq_true rfl) (c_X4_isLetter hM hl (fun q2 => ⟨_, rfl, ?_⟩) (fun q2 => ⟨_, rfl, ?_⟩)) rfl
  · obtain ⟨m, hm, rfl⟩ := q2
    refine v_if_eq 49 8 dX4_canSend_5 rfl rfl (fun h => absurd h (by decide)) (fun _ => ?_)
    refine la_3_0 9 dX4_canSend_8 rfl ?_
    refine vg_X4_16 rfl 12 dX4_canSend_9 rfl ?_
    refine v_bipush (v := 30) 14 dX4_canSend_12 rfl kb_30 ?_
    refine li_3_1 15 dX4_canSend_14 rfl ?_
    refine v_imul 16 dX4_canSend_15 rfl ?_
    refine v_bipush (v := 24) 18 dX4_canSend_16 rfl kb_24 ?_
    refine v_iadd 19 dX4_canSend_18 rfl ?_
    refine li_3_2 20 dX4_canSend_19 rfl ?_
    refine v_iadd 21 dX4_canSend_20 rfl ?_
    refine vmn_7 hM hl _ 22 dX4_canSend_21 rfl (ixB l 24 m) hm ?_
    refine v_if_ne 49 25 dX4_canSend_22 rfl rfl (fun h22 => ?_) (fun h22 => ?_)
    · refine v_iconst (v := 0) 50 dX4_canSend_49 rfl ki_0 ?_
      refine v_zret dX4_canSend_50 rfl (Or.inl rfl) ?_
      exact hF (by rw [sendQ_i b4 hm]; exact fun q => h22 q.1)
    · refine la_3_0 26 dX4_canSend_25 rfl ?_
      refine li_3_1 27 dX4_canSend_26 rfl ?_
      refine la_3_0 28 dX4_canSend_27 rfl ?_
      refine li_3_1 29 dX4_canSend_28 rfl ?_
      refine li_3_2 30 dX4_canSend_29 rfl ?_
      refine v_cVI2 33 dX4_canSend_30 rfl fvX4_onLetter fiX4_onLetter ml_X4_125 (seX4) rfl ⟨(Nat.le_of_ble_eq_true rfl), (Nat.le_of_ble_eq_true rfl)⟩ (Nat.le_of_ble_eq_true rfl) (Nat.le_of_ble_eq_true rfl) (c_X4_onLetter hM hl ⟨_, rfl, ?_⟩) rfl
      refine v_cVI2 36 dX4_canSend_33 rfl fvX4_goodFor fiX4_goodFor ml_X4_135 (seX4) rfl ⟨(Nat.le_of_ble_eq_true rfl), (Nat.le_of_ble_eq_true rfl)⟩ (Nat.le_of_ble_eq_true rfl) (Nat.le_of_ble_eq_true rfl) (c_X4_goodFor hM hl hkd ⟨_, rfl, ?_⟩) rfl
      refine la_3_0 37 dX4_canSend_36 rfl ?_
      refine vg_X4_13 rfl 40 dX4_canSend_37 rfl ?_
      refine li_3_2 41 dX4_canSend_40 rfl ?_
      refine vmn_6 hM hl _ 42 dX4_canSend_41 rfl rfl hm ?_
      refine v_icmp_lt 49 45 dX4_canSend_42 rfl rfl (fun h42 => ?_) (fun h42 => ?_)
      · refine v_iconst (v := 0) 50 dX4_canSend_49 rfl ki_0 ?_
        refine v_zret dX4_canSend_50 rfl (Or.inl rfl) ?_
        exact hF (by rw [sendQ_i b4 hm]; exact fun q => i_nle.mpr h42 q.2)
      · refine v_iconst (v := 1) 46 dX4_canSend_45 rfl ki_1 ?_
        refine v_goto 50 dX4_canSend_46 rfl ?_
        refine v_zret dX4_canSend_50 rfl (Or.inr rfl) ?_
        exact hT ((sendQ_i b4 hm).mpr ⟨h22, i_nlt.mp h42⟩)
  · refine v_if_eq 49 8 dX4_canSend_5 rfl rfl (fun _ => ?_) (fun h => absurd rfl h)
    refine v_iconst (v := 0) 50 dX4_canSend_49 rfl ki_0 ?_
    refine v_zret dX4_canSend_50 rfl (Or.inl rfl) ?_
    exact hF (fun ⟨m, hm, e, _⟩ => q2 ⟨m, hm, e⟩)
set_option maxHeartbeats 4000000 in
set_option maxRecDepth 100000 in
theorem c_X4_canPart {l : Nat} {w : Wd} {P : PT} (hM : isM w l P) (hl : l < 2) {i j : Int32} {Q : Option Value → Wd → Prop} (hT : joinedQ P i j → Q (some (.int 1)) w) (hF : ¬ joinedQ P i j → Q (some (.int 0)) w) : V mX4_canPart 0 [some (.ref 1), some (.int (nI l)), some (.int i), some (.int j)] [] w Q := by
  have b5 := hM.2.2.1
  have b4 := hM.2.2.2.1
  refine la_4_0 1 dX4_canPart_0 rfl ?_
  refine li_4_2 2 dX4_canPart_1 rfl ?_
  refine v_cVI1 5 dX4_canPart_2 rfl fvX4_isStamp fiX4_isStamp ml_X4_128 (seX4) rfl ⟨(Nat.le_of_ble_eq_true rfl), (Nat.le_of_ble_eq_true rfl)⟩ (Nat.le_of_ble_eq_true rfl) (Nat.le_of_ble_eq_true rfl) (c_X4_isStamp hM hl (fun q2 => ⟨_, rfl, ?_⟩) (fun q2 => ⟨_, rfl, ?_⟩)) rfl
  · obtain ⟨k, hk, rfl⟩ := q2
    refine v_if_eq 41 8 dX4_canPart_5 rfl rfl (fun h => absurd h (by decide)) (fun _ => ?_)
    refine la_4_0 9 dX4_canPart_8 rfl ?_
    refine li_4_3 10 dX4_canPart_9 rfl ?_
    refine v_cVI1 13 dX4_canPart_10 rfl fvX4_isStamp fiX4_isStamp ml_X4_128 (seX4) rfl ⟨(Nat.le_of_ble_eq_true rfl), (Nat.le_of_ble_eq_true rfl)⟩ (Nat.le_of_ble_eq_true rfl) (Nat.le_of_ble_eq_true rfl) (c_X4_isStamp hM hl (fun q10 => ⟨_, rfl, ?_⟩) (fun q10 => ⟨_, rfl, ?_⟩)) rfl
    · obtain ⟨m, hm, rfl⟩ := q10
      refine v_if_eq 41 16 dX4_canPart_13 rfl rfl (fun h => absurd h (by decide)) (fun _ => ?_)
      refine la_4_0 17 dX4_canPart_16 rfl ?_
      refine vg_X4_16 rfl 20 dX4_canPart_17 rfl ?_
      refine v_bipush (v := 30) 22 dX4_canPart_20 rfl kb_30 ?_
      refine li_4_1 23 dX4_canPart_22 rfl ?_
      refine v_imul 24 dX4_canPart_23 rfl ?_
      refine v_bipush (v := 10) 26 dX4_canPart_24 rfl kb_10 ?_
      refine v_iadd 27 dX4_canPart_26 rfl ?_
      refine li_4_2 28 dX4_canPart_27 rfl ?_
      refine v_iadd 29 dX4_canPart_28 rfl ?_
      refine vmn_3 hM hl _ 30 dX4_canPart_29 rfl (ixB l 10 k) hk ?_
      refine li_4_3 31 dX4_canPart_30 rfl ?_
      refine v_cSI2 34 dX4_canPart_31 rfl fvX4_has fsX4_has ml_X4_71 ⟨(Nat.le_of_ble_eq_true rfl), (Nat.le_of_ble_eq_true rfl)⟩ (Nat.le_of_ble_eq_true rfl) (Nat.le_of_ble_eq_true rfl) (c_X4_has (fun q31 => ⟨_, rfl, ?_⟩) (fun q31 => ⟨_, rfl, ?_⟩)) rfl
      · refine v_if_eq 41 37 dX4_canPart_34 rfl rfl (fun h => absurd h (by decide)) (fun _ => ?_)
        refine v_iconst (v := 1) 38 dX4_canPart_37 rfl ki_1 ?_
        refine v_goto 42 dX4_canPart_38 rfl ?_
        refine v_zret dX4_canPart_42 rfl (Or.inr rfl) ?_
        exact hT ((joinedQ_i b5 hk hm).mpr q31)
      · refine v_if_eq 41 37 dX4_canPart_34 rfl rfl (fun _ => ?_) (fun h => absurd rfl h)
        refine v_iconst (v := 0) 42 dX4_canPart_41 rfl ki_0 ?_
        refine v_zret dX4_canPart_42 rfl (Or.inl rfl) ?_
        exact hF (by rw [joinedQ_i b5 hk hm, q31]; decide)
    · refine v_if_eq 41 16 dX4_canPart_13 rfl rfl (fun _ => ?_) (fun h => absurd rfl h)
      refine v_iconst (v := 0) 42 dX4_canPart_41 rfl ki_0 ?_
      refine v_zret dX4_canPart_42 rfl (Or.inl rfl) ?_
      exact hF (fun ⟨_, m, _, hm, _, e, _⟩ => q10 ⟨m, hm, e⟩)
  · refine v_if_eq 41 8 dX4_canPart_5 rfl rfl (fun _ => ?_) (fun h => absurd rfl h)
    refine v_iconst (v := 0) 42 dX4_canPart_41 rfl ki_0 ?_
    refine v_zret dX4_canPart_42 rfl (Or.inl rfl) ?_
    exact hF (fun ⟨k, _, hk, _, e, _⟩ => q2 ⟨k, hk, e⟩)
def onI (x : Int32) : Nat → Int32
  | 0 => 0
  | i + 1 => onI x i + (x >>> (nI i &&& 31) &&& 1)
set_option maxHeartbeats 4000000 in
set_option maxRecDepth 100000 in
theorem c_X4_ones {w : Wd} {x : Int32} {Q : Option Value → Wd → Prop} (hQ : Q (some (.int (onI x 5))) w) : V mX4_ones 0 [some (.int x), none, none] [] w Q := by
  have key : ∀ i, i ≤ 5 → V mX4_ones 4 [some (.int x), some (.int (onI x i)), some (.int (nI i))] [] w Q := by
    refine up (fun i hi ih => ?_)
    refine li_3_2 5 dX4_ones_4 rfl ?_
    refine v_iconst (v := 5) 6 dX4_ones_5 rfl ki_5 ?_
    refine v_icmp_ge 23 9 dX4_ones_6 rfl rfl (fun h6 => ?_) (fun h6 => ?_)
    · obtain rfl := ge_eq (n := 5) h6 hi (by omega)
      refine li_3_1 24 dX4_ones_23 rfl ?_
      refine v_iret dX4_ones_24 rfl ?_
      exact hQ
    · have hlt := ge_lt (n := 5) h6 (by omega) (by omega)
      refine li_3_1 10 dX4_ones_9 rfl ?_
      refine li_3_0 11 dX4_ones_10 rfl ?_
      refine li_3_2 12 dX4_ones_11 rfl ?_
      refine v_ishr 13 dX4_ones_12 rfl ?_
      refine v_iconst (v := 1) 14 dX4_ones_13 rfl ki_1 ?_
      refine v_iand 15 dX4_ones_14 rfl ?_
      refine v_iadd 16 dX4_ones_15 rfl ?_
      refine si_3_1 rfl 17 dX4_ones_16 rfl rfl ?_
      refine icn_3_2 rfl 20 dX4_ones_17 rfl rfl ?_
      refine v_goto 4 dX4_ones_20 rfl ?_
      exact ih hlt
  refine v_iconst (v := 0) 1 dX4_ones_0 rfl ki_0 ?_
  refine si_3_1 rfl 2 dX4_ones_1 rfl rfl ?_
  refine v_iconst (v := 0) 3 dX4_ones_2 rfl ki_0 ?_
  refine si_3_2 rfl 4 dX4_ones_3 rfl rfl ?_
  exact key 0 (Nat.zero_le _)
set_option maxHeartbeats 4000000 in
set_option maxRecDepth 100000 in
theorem c_X4_lettersThatAre {w : Wd} {P : PT} (hM : isM w 0 P) {x : Int32} {Q : Option Value → Wd → Prop} (hQ : Q (some (.int (fateP P x))) w) : V mX4_lettersThatAre 0 [some (.ref 1), some (.int x), none, none] [] w Q := by
  have b5 := hM.2.2.1
  have b4 := hM.2.2.2.1
  have key : ∀ i, i ≤ P.1.2.1 → V mX4_lettersThatAre 4 [some (.ref 1), some (.int x), some (.int (orB (fun s => decide (P.2 7 s = x)) i)), some (.int (nI i))] [] w Q := by
    refine up (fun i hi ih => ?_)
    refine li_4_3 5 dX4_lettersThatAre_4 rfl ?_
    refine la_4_0 6 dX4_lettersThatAre_5 rfl ?_
    refine vgm_letters hM hb0 rfl 9 dX4_lettersThatAre_6 rfl ?_
    refine v_icmp_ge 41 12 dX4_lettersThatAre_9 rfl rfl (fun h9 => ?_) (fun h9 => ?_)
    · obtain rfl := ge_eq h9 hi (by omega)
      refine li_4_2 42 dX4_lettersThatAre_41 rfl ?_
      refine v_iret dX4_lettersThatAre_42 rfl ?_
      exact hQ
    · have hlt := ge_lt h9 (by omega) (by omega)
      refine li_4_2 13 dX4_lettersThatAre_12 rfl ?_
      refine la_4_0 14 dX4_lettersThatAre_13 rfl ?_
      refine vg_X4_16 rfl 17 dX4_lettersThatAre_14 rfl ?_
      refine v_bipush (v := 24) 19 dX4_lettersThatAre_17 rfl kb_24 ?_
      refine li_4_3 20 dX4_lettersThatAre_19 rfl ?_
      refine v_iadd 21 dX4_lettersThatAre_20 rfl ?_
      refine vmn_7 hM hb0 _ 22 dX4_lettersThatAre_21 rfl (ixC 24 i) hlt ?_
      refine li_4_1 23 dX4_lettersThatAre_22 rfl ?_
      refine v_icmp_ne 32 26 dX4_lettersThatAre_23 rfl rfl (fun h23 => ?_) (fun h23 => ?_)
      · refine v_iconst (v := 0) 33 dX4_lettersThatAre_32 rfl ki_0 ?_
        refine v_ior 34 dX4_lettersThatAre_33 rfl ?_
        refine si_4_2 rfl 35 dX4_lettersThatAre_34 rfl rfl ?_
        refine icn_4_3 rfl 38 dX4_lettersThatAre_35 rfl rfl ?_
        refine v_goto 4 dX4_lettersThatAre_38 rfl ?_
        have e := ih hlt
        simp only [orB, suB, bit, h23, decide_true, decide_false, Bool.true_and, Bool.false_and, Bool.and_true, Bool.and_false, not_true_eq_false, not_false_eq_true, reduceIte, Bool.false_eq_true] at e
        exact e
      · refine v_iconst (v := 1) 27 dX4_lettersThatAre_26 rfl ki_1 ?_
        refine li_4_3 28 dX4_lettersThatAre_27 rfl ?_
        refine v_ishl 29 dX4_lettersThatAre_28 rfl ?_
        refine v_goto 33 dX4_lettersThatAre_29 rfl ?_
        refine v_ior 34 dX4_lettersThatAre_33 rfl ?_
        refine si_4_2 rfl 35 dX4_lettersThatAre_34 rfl rfl ?_
        refine icn_4_3 rfl 38 dX4_lettersThatAre_35 rfl rfl ?_
        refine v_goto 4 dX4_lettersThatAre_38 rfl ?_
        have e := ih hlt
        simp only [orB, suB, bit, h23, decide_true, decide_false, Bool.true_and, Bool.false_and, Bool.and_true, Bool.and_false, not_true_eq_false, not_false_eq_true, reduceIte, Bool.false_eq_true] at e
        exact e
  refine v_iconst (v := 0) 1 dX4_lettersThatAre_0 rfl ki_0 ?_
  refine si_4_2 rfl 2 dX4_lettersThatAre_1 rfl rfl ?_
  refine v_iconst (v := 0) 3 dX4_lettersThatAre_2 rfl ki_0 ?_
  refine si_4_3 rfl 4 dX4_lettersThatAre_3 rfl rfl ?_
  exact key 0 (Nat.zero_le _)
set_option maxHeartbeats 4000000 in
set_option maxRecDepth 100000 in
theorem c_X4_freeOnes {w : Wd} {P : PT} (hM : isM w 0 P)  {Q : Option Value → Wd → Prop} (hQ : Q (some (.int (freeP P))) w) : V mX4_freeOnes 0 [some (.ref 1), none, none] [] w Q := by
  have b5 := hM.2.2.1
  have b4 := hM.2.2.2.1
  have key : ∀ i, i ≤ P.1.1 → V mX4_freeOnes 4 [some (.ref 1), some (.int (orB (fun s => alP P s && decide (P.2 4 s = -9)) i)), some (.int (nI i))] [] w Q := by
    refine up (fun i hi ih => ?_)
    refine li_3_2 5 dX4_freeOnes_4 rfl ?_
    refine la_3_0 6 dX4_freeOnes_5 rfl ?_
    refine vgm_stamps hM hb0 rfl 9 dX4_freeOnes_6 rfl ?_
    refine v_icmp_ge 37 12 dX4_freeOnes_9 rfl rfl (fun h9 => ?_) (fun h9 => ?_)
    · obtain rfl := ge_eq h9 hi (by omega)
      refine li_3_1 38 dX4_freeOnes_37 rfl ?_
      refine v_iret dX4_freeOnes_38 rfl ?_
      exact hQ
    · have hlt := ge_lt h9 (by omega) (by omega)
      refine li_3_1 13 dX4_freeOnes_12 rfl ?_
      refine la_3_0 14 dX4_freeOnes_13 rfl ?_
      refine v_iconst (v := 0) 15 dX4_freeOnes_14 rfl ki_0 ?_
      refine li_3_2 16 dX4_freeOnes_15 rfl ?_
      refine v_cVI2 19 dX4_freeOnes_16 rfl fvX4_isFree fiX4_isFree ml_X4_150 (seX4) rfl ⟨(Nat.le_of_ble_eq_true rfl), (Nat.le_of_ble_eq_true rfl)⟩ (Nat.le_of_ble_eq_true rfl) (Nat.le_of_ble_eq_true rfl) (c_X4_isFree (l := 0) hM hb0 hlt (fun q16 => ⟨_, rfl, ?_⟩) (fun q16 => ⟨_, rfl, ?_⟩)) rfl
      · refine v_if_eq 28 22 dX4_freeOnes_19 rfl rfl (fun h => absurd h (by decide)) (fun _ => ?_)
        refine v_iconst (v := 1) 23 dX4_freeOnes_22 rfl ki_1 ?_
        refine li_3_2 24 dX4_freeOnes_23 rfl ?_
        refine v_ishl 25 dX4_freeOnes_24 rfl ?_
        refine v_goto 29 dX4_freeOnes_25 rfl ?_
        refine v_ior 30 dX4_freeOnes_29 rfl ?_
        refine si_3_1 rfl 31 dX4_freeOnes_30 rfl rfl ?_
        refine icn_3_2 rfl 34 dX4_freeOnes_31 rfl rfl ?_
        refine v_goto 4 dX4_freeOnes_34 rfl ?_
        have e := ih hlt
        simp only [orB, suB, q16, decide_true, decide_false, Bool.true_and, Bool.false_and, Bool.and_true, Bool.and_false, not_true_eq_false, not_false_eq_true, reduceIte, Bool.false_eq_true] at e
        exact e
      · refine v_if_eq 28 22 dX4_freeOnes_19 rfl rfl (fun _ => ?_) (fun h => absurd rfl h)
        refine v_iconst (v := 0) 29 dX4_freeOnes_28 rfl ki_0 ?_
        refine v_ior 30 dX4_freeOnes_29 rfl ?_
        refine si_3_1 rfl 31 dX4_freeOnes_30 rfl rfl ?_
        refine icn_3_2 rfl 34 dX4_freeOnes_31 rfl rfl ?_
        refine v_goto 4 dX4_freeOnes_34 rfl ?_
        have e := ih hlt
        simp only [orB, suB, q16, decide_true, decide_false, Bool.true_and, Bool.false_and, Bool.and_true, Bool.and_false, not_true_eq_false, not_false_eq_true, reduceIte, Bool.false_eq_true] at e
        exact e
  refine v_iconst (v := 0) 1 dX4_freeOnes_0 rfl ki_0 ?_
  refine si_3_1 rfl 2 dX4_freeOnes_1 rfl rfl ?_
  refine v_iconst (v := 0) 3 dX4_freeOnes_2 rfl ki_0 ?_
  refine si_3_2 rfl 4 dX4_freeOnes_3 rfl rfl ?_
  exact key 0 (Nat.zero_le _)
set_option maxHeartbeats 4000000 in
set_option maxRecDepth 100000 in
theorem c_X4_paidBy {w : Wd} {P : PT} (hM : isM w 0 P) (hkd : ∀ s, s < P.1.1 → P.2 2 s = 0 ∨ P.2 2 s = 1 ∨ P.2 2 s = 2 ∨ P.2 2 s = 3) {x : Int32} {Q : Option Value → Wd → Prop} (hQ : Q (some (.int (payP P x))) w) : V mX4_paidBy 0 [some (.ref 1), some (.int x), none, none] [] w Q := by
  have b5 := hM.2.2.1
  have b4 := hM.2.2.2.1
  have key : ∀ i, i ≤ P.1.2.1 → V mX4_paidBy 4 [some (.ref 1), some (.int x), some (.int (suB (fun s => if decide (P.2 7 s = 0) && decide (P.2 6 s ≤ goodP P x) then 1 else 0) i)), some (.int (nI i))] [] w Q := by
    refine up (fun i hi ih => ?_)
    refine li_4_3 5 dX4_paidBy_4 rfl ?_
    refine la_4_0 6 dX4_paidBy_5 rfl ?_
    refine vgm_letters hM hb0 rfl 9 dX4_paidBy_6 rfl ?_
    refine v_icmp_ge 53 12 dX4_paidBy_9 rfl rfl (fun h9 => ?_) (fun h9 => ?_)
    · obtain rfl := ge_eq h9 hi (by omega)
      refine li_4_2 54 dX4_paidBy_53 rfl ?_
      refine v_iret dX4_paidBy_54 rfl ?_
      exact hQ
    · have hlt := ge_lt h9 (by omega) (by omega)
      refine li_4_2 13 dX4_paidBy_12 rfl ?_
      refine la_4_0 14 dX4_paidBy_13 rfl ?_
      refine vg_X4_16 rfl 17 dX4_paidBy_14 rfl ?_
      refine v_bipush (v := 24) 19 dX4_paidBy_17 rfl kb_24 ?_
      refine li_4_3 20 dX4_paidBy_19 rfl ?_
      refine v_iadd 21 dX4_paidBy_20 rfl ?_
      refine vmn_7 hM hb0 _ 22 dX4_paidBy_21 rfl (ixC 24 i) hlt ?_
      refine v_if_ne 44 25 dX4_paidBy_22 rfl rfl (fun h22 => ?_) (fun h22 => ?_)
      · refine v_iconst (v := 0) 45 dX4_paidBy_44 rfl ki_0 ?_
        refine v_iadd 46 dX4_paidBy_45 rfl ?_
        refine si_4_2 rfl 47 dX4_paidBy_46 rfl rfl ?_
        refine icn_4_3 rfl 50 dX4_paidBy_47 rfl rfl ?_
        refine v_goto 4 dX4_paidBy_50 rfl ?_
        have e := ih hlt
        simp only [orB, suB, h22, decide_true, decide_false, Bool.true_and, Bool.false_and, Bool.and_true, Bool.and_false, not_true_eq_false, not_false_eq_true, reduceIte, Bool.false_eq_true] at e
        exact e
      · refine la_4_0 26 dX4_paidBy_25 rfl ?_
        refine vg_X4_13 rfl 29 dX4_paidBy_26 rfl ?_
        refine li_4_3 30 dX4_paidBy_29 rfl ?_
        refine vmn_6 hM hb0 _ 31 dX4_paidBy_30 rfl rfl hlt ?_
        refine la_4_0 32 dX4_paidBy_31 rfl ?_
        refine v_iconst (v := 0) 33 dX4_paidBy_32 rfl ki_0 ?_
        refine li_4_1 34 dX4_paidBy_33 rfl ?_
        refine v_cVI2 37 dX4_paidBy_34 rfl fvX4_goodFor fiX4_goodFor ml_X4_135 (seX4) rfl ⟨(Nat.le_of_ble_eq_true rfl), (Nat.le_of_ble_eq_true rfl)⟩ (Nat.le_of_ble_eq_true rfl) (Nat.le_of_ble_eq_true rfl) (c_X4_goodFor (l := 0) hM hb0 hkd ⟨_, rfl, ?_⟩) rfl
        refine v_icmp_gt 44 40 dX4_paidBy_37 rfl rfl (fun h37 => ?_) (fun h37 => ?_)
        · have h37 := i_nle.mpr h37
          refine v_iconst (v := 0) 45 dX4_paidBy_44 rfl ki_0 ?_
          refine v_iadd 46 dX4_paidBy_45 rfl ?_
          refine si_4_2 rfl 47 dX4_paidBy_46 rfl rfl ?_
          refine icn_4_3 rfl 50 dX4_paidBy_47 rfl rfl ?_
          refine v_goto 4 dX4_paidBy_50 rfl ?_
          have e := ih hlt
          simp only [orB, suB, h22, h37, decide_true, decide_false, Bool.true_and, Bool.false_and, Bool.and_true, Bool.and_false, not_true_eq_false, not_false_eq_true, reduceIte, Bool.false_eq_true] at e
          exact e
        · have h37 := i_nlt.mp h37
          refine v_iconst (v := 1) 41 dX4_paidBy_40 rfl ki_1 ?_
          refine v_goto 45 dX4_paidBy_41 rfl ?_
          refine v_iadd 46 dX4_paidBy_45 rfl ?_
          refine si_4_2 rfl 47 dX4_paidBy_46 rfl rfl ?_
          refine icn_4_3 rfl 50 dX4_paidBy_47 rfl rfl ?_
          refine v_goto 4 dX4_paidBy_50 rfl ?_
          have e := ih hlt
          simp only [orB, suB, h22, h37, decide_true, decide_false, Bool.true_and, Bool.false_and, Bool.and_true, Bool.and_false, not_true_eq_false, not_false_eq_true, reduceIte, Bool.false_eq_true] at e
          exact e
  refine v_iconst (v := 0) 1 dX4_paidBy_0 rfl ki_0 ?_
  refine si_4_2 rfl 2 dX4_paidBy_1 rfl rfl ?_
  refine v_iconst (v := 0) 3 dX4_paidBy_2 rfl ki_0 ?_
  refine si_4_3 rfl 4 dX4_paidBy_3 rfl rfl ?_
  exact key 0 (Nat.zero_le _)

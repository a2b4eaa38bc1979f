set_option maxHeartbeats 4000000 in
set_option maxRecDepth 100000 in
theorem c_X1_hasStamp {b : Nat} (hb : b < 2) {w : Wd} {P : PT} (hC : isC w b P) {i : Int32} {Q : Option Value → Wd → Prop} (hT : (∃ k, k < P.1.1 ∧ i = nI k) → Q (some (.int 1)) w) (hF : (¬ ∃ k, k < P.1.1 ∧ i = nI k) → Q (some (.int 0)) w) : V mX1_hasStamp 0 [some (.ref (pr b)), some (.int i)] [] w Q := by
  have h5 := hC.2.2.2.2.1
  have h4 := hC.2.2.2.2.2.1
  refine li_2_1 1 dX1_hasStamp_0 rfl ?_
  refine v_if_lt 16 4 dX1_hasStamp_1 rfl rfl (fun h1 => ?_) (fun h1 => ?_)
  · refine v_iconst (v := 0) 17 dX1_hasStamp_16 rfl ki_0 ?_
    refine v_zret dX1_hasStamp_17 rfl (Or.inl rfl) ?_
    first
      | exact hT (inR (by omega) ‹_› ‹_›)
      | exact hF (notR (by omega) (Or.inl ‹_›))
      | exact hF (notR (by omega) (Or.inr ‹_›))
  · refine li_2_1 5 dX1_hasStamp_4 rfl ?_
    refine la_2_0 6 dX1_hasStamp_5 rfl ?_
    refine vgq_X1_36 hb hC rfl 9 dX1_hasStamp_6 rfl ?_
    refine v_icmp_ge 16 12 dX1_hasStamp_9 rfl rfl (fun h9 => ?_) (fun h9 => ?_)
    · refine v_iconst (v := 0) 17 dX1_hasStamp_16 rfl ki_0 ?_
      refine v_zret dX1_hasStamp_17 rfl (Or.inl rfl) ?_
      first
        | exact hT (inR (by omega) ‹_› ‹_›)
        | exact hF (notR (by omega) (Or.inl ‹_›))
        | exact hF (notR (by omega) (Or.inr ‹_›))
    · refine v_iconst (v := 1) 13 dX1_hasStamp_12 rfl ki_1 ?_
      refine v_goto 17 dX1_hasStamp_13 rfl ?_
      refine v_zret dX1_hasStamp_17 rfl (Or.inr rfl) ?_
      first
        | exact hT (inR (by omega) ‹_› ‹_›)
        | exact hF (notR (by omega) (Or.inl ‹_›))
        | exact hF (notR (by omega) (Or.inr ‹_›))
set_option maxHeartbeats 4000000 in
set_option maxRecDepth 100000 in
theorem c_X1_hasLetter {b : Nat} (hb : b < 2) {w : Wd} {P : PT} (hC : isC w b P) {i : Int32} {Q : Option Value → Wd → Prop} (hT : (∃ k, k < P.1.2.1 ∧ i = nI k) → Q (some (.int 1)) w) (hF : (¬ ∃ k, k < P.1.2.1 ∧ i = nI k) → Q (some (.int 0)) w) : V mX1_hasLetter 0 [some (.ref (pr b)), some (.int i)] [] w Q := by
  have h5 := hC.2.2.2.2.1
  have h4 := hC.2.2.2.2.2.1
  refine li_2_1 1 dX1_hasLetter_0 rfl ?_
  refine v_if_lt 16 4 dX1_hasLetter_1 rfl rfl (fun h1 => ?_) (fun h1 => ?_)
  · refine v_iconst (v := 0) 17 dX1_hasLetter_16 rfl ki_0 ?_
    refine v_zret dX1_hasLetter_17 rfl (Or.inl rfl) ?_
    first
      | exact hT (inR (by omega) ‹_› ‹_›)
      | exact hF (notR (by omega) (Or.inl ‹_›))
      | exact hF (notR (by omega) (Or.inr ‹_›))
  · refine li_2_1 5 dX1_hasLetter_4 rfl ?_
    refine la_2_0 6 dX1_hasLetter_5 rfl ?_
    refine vgq_X1_40 hb hC rfl 9 dX1_hasLetter_6 rfl ?_
    refine v_icmp_ge 16 12 dX1_hasLetter_9 rfl rfl (fun h9 => ?_) (fun h9 => ?_)
    · refine v_iconst (v := 0) 17 dX1_hasLetter_16 rfl ki_0 ?_
      refine v_zret dX1_hasLetter_17 rfl (Or.inl rfl) ?_
      first
        | exact hT (inR (by omega) ‹_› ‹_›)
        | exact hF (notR (by omega) (Or.inl ‹_›))
        | exact hF (notR (by omega) (Or.inr ‹_›))
    · refine v_iconst (v := 1) 13 dX1_hasLetter_12 rfl ki_1 ?_
      refine v_goto 17 dX1_hasLetter_13 rfl ?_
      refine v_zret dX1_hasLetter_17 rfl (Or.inr rfl) ?_
      first
        | exact hT (inR (by omega) ‹_› ‹_›)
        | exact hF (notR (by omega) (Or.inl ‹_›))
        | exact hF (notR (by omega) (Or.inr ‹_›))
set_option maxHeartbeats 4000000 in
set_option maxRecDepth 100000 in
theorem c_X1_allBits {b : Nat} (hb : b < 2) {w : Wd} {P : PT} (hC : isC w b P)  {Q : Option Value → Wd → Prop} (hQ : Q (some (.int (1 <<< (nI P.1.1 &&& 31) - 1))) w) : V mX1_allBits 0 [some (.ref (pr b))] [] w Q := by
  refine v_iconst (v := 1) 1 dX1_allBits_0 rfl ki_1 ?_
  refine la_1_0 2 dX1_allBits_1 rfl ?_
  refine vgq_X1_36 hb hC rfl 5 dX1_allBits_2 rfl ?_
  refine v_ishl 6 dX1_allBits_5 rfl ?_
  refine v_iconst (v := 1) 7 dX1_allBits_6 rfl ki_1 ?_
  refine v_isub 8 dX1_allBits_7 rfl ?_
  refine v_iret dX1_allBits_8 rfl ?_
  exact hQ
set_option maxHeartbeats 4000000 in
set_option maxRecDepth 100000 in
theorem c_X1_span {b : Nat} (hb : b < 2) {w : Wd} {P : PT} (hC : isC w b P) {k : Nat} (hk : k < P.1.1) {Q : Option Value → Wd → Prop} (hQ : Q (some (.int (spanF (P.2 2 k) (P.2 1 k)))) w) : V mX1_span 0 [some (.ref (pr b)), some (.int (nI k)), none] [] w Q := by
  refine la_3_0 1 dX1_span_0 rfl ?_
  refine vg_X1_18 hb rfl 4 dX1_span_1 rfl ?_
  refine li_3_1 5 dX1_span_4 rfl ?_
  refine vlq_X1_kind hb hC _ 6 dX1_span_5 rfl rfl (by omega) ?_
  refine v_iconst (v := 1) 7 dX1_span_6 rfl ki_1 ?_
  refine v_icmp_ne 15 10 dX1_span_7 rfl rfl (fun h7 => ?_) (fun h7 => ?_)
  · refine la_3_0 16 dX1_span_15 rfl ?_
    refine vg_X1_18 hb rfl 19 dX1_span_16 rfl ?_
    refine li_3_1 20 dX1_span_19 rfl ?_
    refine vlq_X1_kind hb hC _ 21 dX1_span_20 rfl rfl (by omega) ?_
    refine v_iconst (v := 2) 22 dX1_span_21 rfl ki_2 ?_
    refine v_icmp_ne 30 25 dX1_span_22 rfl rfl (fun h22 => ?_) (fun h22 => ?_)
    · refine v_iconst (v := 0) 31 dX1_span_30 rfl ki_0 ?_
      refine si_3_2 rfl 32 dX1_span_31 rfl rfl ?_
      refine v_bipush (v := 60) 34 dX1_span_32 rfl kb_60 ?_
      refine v_iconst (v := 3) 35 dX1_span_34 rfl ki_3 ?_
      refine la_3_0 36 dX1_span_35 rfl ?_
      refine vg_X1_15 hb rfl 39 dX1_span_36 rfl ?_
      refine li_3_1 40 dX1_span_39 rfl ?_
      refine vlq_X1_health hb hC _ 41 dX1_span_40 rfl rfl (by omega) ?_
      refine v_imul 42 dX1_span_41 rfl ?_
      refine v_iadd 43 dX1_span_42 rfl ?_
      refine li_3_2 44 dX1_span_43 rfl ?_
      refine v_iadd 45 dX1_span_44 rfl ?_
      refine v_iret dX1_span_45 rfl ?_
      simp only [spanF, *, if_true, if_false] at hQ
      exact hQ
    · refine v_bipush (v := 15) 27 dX1_span_25 rfl kb_15 ?_
      refine v_goto 31 dX1_span_27 rfl ?_
      refine si_3_2 rfl 32 dX1_span_31 rfl rfl ?_
      refine v_bipush (v := 60) 34 dX1_span_32 rfl kb_60 ?_
      refine v_iconst (v := 3) 35 dX1_span_34 rfl ki_3 ?_
      refine la_3_0 36 dX1_span_35 rfl ?_
      refine vg_X1_15 hb rfl 39 dX1_span_36 rfl ?_
      refine li_3_1 40 dX1_span_39 rfl ?_
      refine vlq_X1_health hb hC _ 41 dX1_span_40 rfl rfl (by omega) ?_
      refine v_imul 42 dX1_span_41 rfl ?_
      refine v_iadd 43 dX1_span_42 rfl ?_
      refine li_3_2 44 dX1_span_43 rfl ?_
      refine v_iadd 45 dX1_span_44 rfl ?_
      refine v_iret dX1_span_45 rfl ?_
      simp only [spanF, *, if_true, if_false] at hQ
      exact hQ
  · refine v_bipush (v := 10) 12 dX1_span_10 rfl kb_10 ?_
    refine v_goto 31 dX1_span_12 rfl ?_
    refine si_3_2 rfl 32 dX1_span_31 rfl rfl ?_
    refine v_bipush (v := 60) 34 dX1_span_32 rfl kb_60 ?_
    refine v_iconst (v := 3) 35 dX1_span_34 rfl ki_3 ?_
    refine la_3_0 36 dX1_span_35 rfl ?_
    refine vg_X1_15 hb rfl 39 dX1_span_36 rfl ?_
    refine li_3_1 40 dX1_span_39 rfl ?_
    refine vlq_X1_health hb hC _ 41 dX1_span_40 rfl rfl (by omega) ?_
    refine v_imul 42 dX1_span_41 rfl ?_
    refine v_iadd 43 dX1_span_42 rfl ?_
    refine li_3_2 44 dX1_span_43 rfl ?_
    refine v_iadd 45 dX1_span_44 rfl ?_
    refine v_iret dX1_span_45 rfl ?_
    simp only [spanF, *, if_true, if_false] at hQ
    exact hQ
set_option maxHeartbeats 4000000 in
set_option maxRecDepth 100000 in
theorem c_X1_isAlive {b : Nat} (hb : b < 2) {w : Wd} {P : PT} (hC : isC w b P) {k : Nat} (hk : k < P.1.1) {Q : Option Value → Wd → Prop} (hT : alP P k = true → Q (some (.int 1)) w) (hF : alP P k = false → Q (some (.int 0)) w) : V mX1_isAlive 0 [some (.ref (pr b)), some (.int (nI k))] [] w Q := by
  refine la_2_0 1 dX1_isAlive_0 rfl ?_
  refine vg_X1_9 hb rfl 4 dX1_isAlive_1 rfl ?_
  refine li_2_1 5 dX1_isAlive_4 rfl ?_
  refine vlq_X1_age hb hC _ 6 dX1_isAlive_5 rfl rfl (by omega) ?_
  refine la_2_0 7 dX1_isAlive_6 rfl ?_
  refine li_2_1 8 dX1_isAlive_7 rfl ?_
  refine v_cVI1 11 dX1_isAlive_8 rfl fvX1_span fiX1_span ml_X1_77 (seX1 hb) rfl ⟨(Nat.le_of_ble_eq_true rfl), (Nat.le_of_ble_eq_true rfl)⟩ (Nat.le_of_ble_eq_true rfl) (Nat.le_of_ble_eq_true rfl) (c_X1_span hb hC (by omega) ⟨_, rfl, ?_⟩) rfl
  refine v_icmp_ge 18 14 dX1_isAlive_11 rfl rfl (fun h11 => ?_) (fun h11 => ?_)
  · refine v_iconst (v := 0) 19 dX1_isAlive_18 rfl ki_0 ?_
    refine v_zret dX1_isAlive_19 rfl (Or.inl rfl) ?_
    first
      | exact hT (by simpa [alP] using i_nle.mp ‹_›)
      | exact hF (by simpa [alP, i_nlt] using ‹_›)
  · refine v_iconst (v := 1) 15 dX1_isAlive_14 rfl ki_1 ?_
    refine v_goto 19 dX1_isAlive_15 rfl ?_
    refine v_zret dX1_isAlive_19 rfl (Or.inr rfl) ?_
    first
      | exact hT (by simpa [alP] using i_nle.mp ‹_›)
      | exact hF (by simpa [alP, i_nlt] using ‹_›)
set_option maxHeartbeats 4000000 in
set_option maxRecDepth 100000 in
theorem c_X1_rate {b : Nat} (hb : b < 2) {w : Wd} {P : PT} (hC : isC w b P) {k : Nat} (hk : k < P.1.1) {Q : Option Value → Wd → Prop} (hQ : Q (some (.int (rateP P k))) w) : V mX1_rate 0 [some (.ref (pr b)), some (.int (nI k))] [] w Q := by
  refine la_2_0 1 dX1_rate_0 rfl ?_
  refine vg_X1_18 hb rfl 4 dX1_rate_1 rfl ?_
  refine li_2_1 5 dX1_rate_4 rfl ?_
  refine vlq_X1_kind hb hC _ 6 dX1_rate_5 rfl rfl (by omega) ?_
  refine v_tab3 32 49 51 68 dX1_rate_6 rfl rfl rfl rfl (fun h6_0 => ?_) (fun h6_1 => ?_) (fun h6_2 => ?_) (fun n6_0 n6_1 n6_2 => ?_)
  · refine v_bipush (v := 9) 34 dX1_rate_32 rfl kb_9 ?_
    refine v_iconst (v := 2) 35 dX1_rate_34 rfl ki_2 ?_
    refine la_2_0 36 dX1_rate_35 rfl ?_
    refine vg_X1_9 hb rfl 39 dX1_rate_36 rfl ?_
    refine li_2_1 40 dX1_rate_39 rfl ?_
    refine vlq_X1_age hb hC _ 41 dX1_rate_40 rfl rfl (by omega) ?_
    refine v_bipush (v := 20) 43 dX1_rate_41 rfl kb_20 ?_
    refine v_idiv 44 dX1_rate_43 rfl (by decide) ?_
    refine v_iadd 45 dX1_rate_44 rfl ?_
    refine v_mmin 48 dX1_rate_45 rfl ml_X1_81 (by decide) (by decide) (Nat.le_of_ble_eq_true rfl) ?_
    refine v_iret dX1_rate_48 rfl ?_
    simp only [rateP, rateF, *, if_true, if_false] at hQ
    exact hQ
  · refine v_iconst (v := 1) 50 dX1_rate_49 rfl ki_1 ?_
    refine v_iret dX1_rate_50 rfl ?_
    simp only [rateP, rateF, *, if_true, if_false] at hQ
    exact hQ
  · refine v_bipush (v := 9) 53 dX1_rate_51 rfl kb_9 ?_
    refine v_iconst (v := 2) 54 dX1_rate_53 rfl ki_2 ?_
    refine la_2_0 55 dX1_rate_54 rfl ?_
    refine vg_X1_9 hb rfl 58 dX1_rate_55 rfl ?_
    refine li_2_1 59 dX1_rate_58 rfl ?_
    refine vlq_X1_age hb hC _ 60 dX1_rate_59 rfl rfl (by omega) ?_
    refine v_bipush (v := 10) 62 dX1_rate_60 rfl kb_10 ?_
    refine v_idiv 63 dX1_rate_62 rfl (by decide) ?_
    refine v_iadd 64 dX1_rate_63 rfl ?_
    refine v_mmin 67 dX1_rate_64 rfl ml_X1_81 (by decide) (by decide) (Nat.le_of_ble_eq_true rfl) ?_
    refine v_iret dX1_rate_67 rfl ?_
    simp only [rateP, rateF, *, if_true, if_false] at hQ
    exact hQ
  · refine v_iconst (v := 0) 69 dX1_rate_68 rfl ki_0 ?_
    refine v_iret dX1_rate_69 rfl ?_
    simp only [rateP, rateF, *, if_true, if_false] at hQ
    exact hQ

theorem dg1 {q : Nat} (h : q < 1000) : nI q / 100 = nI (q / 100) := pk_div (a := q) (d := 100) (by omega) (by omega) (by omega)
theorem dg2 {q : Nat} (h : q < 1000) : nI q / 10 - nI q / 10 / 10 * 10 = nI (q / 10 % 10) := by
  have e : nI q / 10 = nI (q / 10) := pk_div (a := q) (d := 10) (by omega) (by omega) (by omega)
  rw [e]
  exact pk_rem (a := q / 10) (d := 10) (by omega) (by omega) (by omega)
theorem dg3 {q : Nat} (h : q < 1000) : nI q - nI q / 10 * 10 = nI (q % 10) := pk_rem (a := q) (d := 10) (by omega) (by omega) (by omega)
theorem stickQ_b {P : PT} (h5 : P.1.1 ≤ 5) (h4 : P.1.2.1 ≤ 4) {a c : Nat} (ha : a < 10) (hc : c < 10) (h : stickQ P (nI a) (nI c)) : a < P.1.1 ∧ c < P.1.2.1 := by
  obtain ⟨k, m, hk, hm, e1, e2, -⟩ := h
  have := nI_inj (by omega) (by omega) e1
  have := nI_inj (by omega) (by omega) e2
  omega
theorem sendQ_b {P : PT} (h4 : P.1.2.1 ≤ 4) {c : Nat} (hc : c < 10) (h : sendQ P (nI c)) : c < P.1.2.1 := by
  obtain ⟨m, hm, e2, -⟩ := h
  have := nI_inj (by omega) (by omega) e2
  omega
theorem joinedQ_b {P : PT} (h5 : P.1.1 ≤ 5) {a c : Nat} (ha : a < 10) (hc : c < 10) (h : joinedQ P (nI a) (nI c)) : a < P.1.1 ∧ c < P.1.1 := by
  obtain ⟨k, m, hk, hm, e1, e2, -⟩ := h
  have := nI_inj (by omega) (by omega) e1
  have := nI_inj (by omega) (by omega) e2
  omega
/-- a doing h a c takes P to R -/
def actR (P : PT) (h a c : Nat) (R : PT) : Prop := (h = 0 ∧ a = 0 ∧ c = 0 ∧ R = passP P) ∨ (h = 1 ∧ stickQ P (nI a) (nI c) ∧ R = stickP P a (nI c)) ∨ (h = 2 ∧ a = 0 ∧ sendQ P (nI c) ∧ R = sendP P c) ∨ (h = 3 ∧ joinedQ P (nI a) (nI c) ∧ R = partP P a c)
theorem actR_det {P R R2 : PT} {h a c : Nat} (h1 : actR P h a c R) (h2 : actR P h a c R2) : R = R2 := by
  rcases h1 with ⟨e, -, -, e2⟩ | ⟨e, -, e2⟩ | ⟨e, -, -, e2⟩ | ⟨e, -, e2⟩ <;> rcases h2 with ⟨f, -, -, f2⟩ | ⟨f, -, f2⟩ | ⟨f, -, -, f2⟩ | ⟨f, -, f2⟩ <;> first | omega | (rw [e2, f2])
set_option maxHeartbeats 4000000 in
set_option maxRecDepth 100000 in
theorem c_X1_does {b : Nat} (hb : b < 2) {w : Wd} {P : PT} (hC : isC w b P) {q : Nat} (hq : q < 1000) {Q : Option Value → Wd → Prop} (hT : ∀ R u, actR P (q / 100) (q / 10 % 10) (q % 10) R → isC u b R → Fr b w u → Q (some (.int 1)) u) (hF : (¬ ∃ R, actR P (q / 100) (q / 10 % 10) (q % 10) R) → Q (some (.int 0)) w) : V mX1_does 0 [some (.ref (pr b)), some (.int (nI q)), none, none, none] [] w Q := by
  have h5 := hC.2.2.2.2.1
  have h4 := hC.2.2.2.2.2.1
  obtain ⟨h, eh⟩ : ∃ h, h = q / 100 := ⟨_, rfl⟩
  obtain ⟨a, ea⟩ : ∃ a, a = q / 10 % 10 := ⟨_, rfl⟩
  obtain ⟨c, ec⟩ : ∃ c, c = q % 10 := ⟨_, rfl⟩
  rw [← eh, ← ea, ← ec] at hT hF
  refine li_5_1 1 dX1_does_0 rfl ?_
  refine v_bipush (v := 10) 3 dX1_does_1 rfl kb_10 ?_
  refine v_idiv 4 dX1_does_3 rfl (by decide) ?_
  refine v_bipush (v := 10) 6 dX1_does_4 rfl kb_10 ?_
  refine v_irem 7 dX1_does_6 rfl (by decide) ?_
  refine si_5_2 rfl 8 dX1_does_7 rfl rfl ?_
  refine li_5_1 9 dX1_does_8 rfl ?_
  refine v_bipush (v := 10) 11 dX1_does_9 rfl kb_10 ?_
  refine v_irem 12 dX1_does_11 rfl (by decide) ?_
  refine si_5_3 rfl 13 dX1_does_12 rfl rfl ?_
  rw [dg2 hq, dg3 hq, ← ea, ← ec]
  refine li_5_1 14 dX1_does_13 rfl ?_
  refine v_bipush (v := 100) 16 dX1_does_14 rfl kb_100 ?_
  refine v_idiv 17 dX1_does_16 rfl (by decide) ?_
  rw [dg1 hq, ← eh]
  refine v_tab4 48 71 93 125 147 dX1_does_17 rfl rfl rfl rfl rfl (fun h17_0 => ?_) (fun h17_1 => ?_) (fun h17_2 => ?_) (fun h17_3 => ?_) (fun n17_0 n17_1 n17_2 n17_3 => ?_)
  · have hh : h = 0 := nI_inj (b := 0) (by omega) (by omega) h17_0
    refine li_5_1 49 dX1_does_48 rfl ?_
    refine v_if_ne 56 52 dX1_does_49 rfl rfl (fun h49 => ?_) (fun h49 => ?_)
    · have hq0 : ¬ q = 0 := fun z => h49 (by rw [z]; rfl)
      refine v_iconst (v := 0) 57 dX1_does_56 rfl ki_0 ?_
      refine si_5_4 rfl 59 dX1_does_57 rfl rfl ?_
      refine li_5_4 61 dX1_does_59 rfl ?_
      refine v_if_eq 68 64 dX1_does_61 rfl rfl (fun _ => ?_) (fun h => absurd rfl h)
      refine li_5_4 70 dX1_does_68 rfl ?_
      refine v_zret dX1_does_70 rfl (Or.inl rfl) ?_
      exact hF (by rintro ⟨R, z⟩; rcases z with ⟨z, z2, z3, -⟩ | ⟨z, z2, -⟩ | ⟨z, z2, z3, -⟩ | ⟨z, z2, -⟩ <;> first | omega)
    · have hq0 : q = 0 := nI_inj (b := 0) (by omega) (by omega) h49
      refine v_iconst (v := 1) 53 dX1_does_52 rfl ki_1 ?_
      refine v_goto 57 dX1_does_53 rfl ?_
      refine si_5_4 rfl 59 dX1_does_57 rfl rfl ?_
      refine li_5_4 61 dX1_does_59 rfl ?_
      refine v_if_eq 68 64 dX1_does_61 rfl rfl (fun h => absurd h (by decide)) (fun _ => ?_)
      refine la_5_0 65 dX1_does_64 rfl ?_
      refine v_cVN0 68 dX1_does_65 rfl fvX1_passWeek fiX1_passWeek ml_X1_124 (seX1 hb) rfl ⟨(Nat.le_of_ble_eq_true rfl), (Nat.le_of_ble_eq_true rfl)⟩ (Nat.le_of_ble_eq_true rfl) (Nat.le_of_ble_eq_true rfl) (c_X1_passWeek hb hC (fun u1 hC1 hF1 => ⟨rfl, ?_⟩)) rfl
      refine li_5_4 70 dX1_does_68 rfl ?_
      refine v_zret dX1_does_70 rfl (Or.inr rfl) ?_
      exact hT _ _ (Or.inl ⟨hh, by omega, by omega, rfl⟩) hC1 hF1
  · have hh : h = 1 := nI_inj (b := 1) (by omega) (by omega) h17_1
    refine la_5_0 72 dX1_does_71 rfl ?_
    refine li_5_2 73 dX1_does_72 rfl ?_
    refine li_5_3 74 dX1_does_73 rfl ?_
    refine v_cVI2 77 dX1_does_74 rfl fvX1_canStick fiX1_canStick ml_X1_127 (seX1 hb) rfl ⟨(Nat.le_of_ble_eq_true rfl), (Nat.le_of_ble_eq_true rfl)⟩ (Nat.le_of_ble_eq_true rfl) (Nat.le_of_ble_eq_true rfl) (c_X1_canStick hb hC (fun q74 => ⟨_, rfl, ?_⟩) (fun q74 => ⟨_, rfl, ?_⟩)) rfl
    · have hkm := stickQ_b h5 h4 (by omega) (by omega) q74
      refine si_5_4 rfl 79 dX1_does_77 rfl rfl ?_
      refine li_5_4 81 dX1_does_79 rfl ?_
      refine v_if_eq 90 84 dX1_does_81 rfl rfl (fun h => absurd h (by decide)) (fun _ => ?_)
      refine la_5_0 85 dX1_does_84 rfl ?_
      refine li_5_2 86 dX1_does_85 rfl ?_
      refine li_5_3 87 dX1_does_86 rfl ?_
      refine v_cVN2 90 dX1_does_87 rfl fvX1_stickOn fiX1_stickOn ml_X1_130 (seX1 hb) rfl ⟨(Nat.le_of_ble_eq_true rfl), (Nat.le_of_ble_eq_true rfl)⟩ (Nat.le_of_ble_eq_true rfl) (Nat.le_of_ble_eq_true rfl) (c_X1_stickOn hb hC hkm.1 (fun u1 hC1 hF1 => ⟨rfl, ?_⟩)) rfl
      refine li_5_4 92 dX1_does_90 rfl ?_
      refine v_zret dX1_does_92 rfl (Or.inr rfl) ?_
      exact hT _ _ (Or.inr (Or.inl ⟨hh, q74, rfl⟩)) hC1 hF1
    · refine si_5_4 rfl 79 dX1_does_77 rfl rfl ?_
      refine li_5_4 81 dX1_does_79 rfl ?_
      refine v_if_eq 90 84 dX1_does_81 rfl rfl (fun _ => ?_) (fun h => absurd rfl h)
      refine li_5_4 92 dX1_does_90 rfl ?_
      refine v_zret dX1_does_92 rfl (Or.inl rfl) ?_
      exact hF (by rintro ⟨R, z⟩; rcases z with ⟨z, z2, z3, -⟩ | ⟨z, z2, -⟩ | ⟨z, z2, z3, -⟩ | ⟨z, z2, -⟩ <;> first | omega | exact q74 z2)
  · have hh : h = 2 := nI_inj (b := 2) (by omega) (by omega) h17_2
    refine li_5_2 94 dX1_does_93 rfl ?_
    refine v_if_ne 109 97 dX1_does_94 rfl rfl (fun h94 => ?_) (fun h94 => ?_)
    · have ha0 : ¬ a = 0 := fun z => h94 (by rw [z]; rfl)
      refine v_iconst (v := 0) 110 dX1_does_109 rfl ki_0 ?_
      refine si_5_4 rfl 112 dX1_does_110 rfl rfl ?_
      refine li_5_4 114 dX1_does_112 rfl ?_
      refine v_if_eq 122 117 dX1_does_114 rfl rfl (fun _ => ?_) (fun h => absurd rfl h)
      refine li_5_4 124 dX1_does_122 rfl ?_
      refine v_zret dX1_does_124 rfl (Or.inl rfl) ?_
      exact hF (by rintro ⟨R, z⟩; rcases z with ⟨z, z2, z3, -⟩ | ⟨z, z2, -⟩ | ⟨z, z2, z3, -⟩ | ⟨z, z2, -⟩ <;> first | omega)
    · have ha0 : a = 0 := nI_inj (b := 0) (by omega) (by omega) h94
      refine la_5_0 98 dX1_does_97 rfl ?_
      refine li_5_3 99 dX1_does_98 rfl ?_
      refine v_cVI1 102 dX1_does_99 rfl fvX1_canSend fiX1_canSend ml_X1_133 (seX1 hb) rfl ⟨(Nat.le_of_ble_eq_true rfl), (Nat.le_of_ble_eq_true rfl)⟩ (Nat.le_of_ble_eq_true rfl) (Nat.le_of_ble_eq_true rfl) (c_X1_canSend hb hC (fun q99 => ⟨_, rfl, ?_⟩) (fun q99 => ⟨_, rfl, ?_⟩)) rfl
      · have hkm := sendQ_b h4 (by omega) q99
        refine v_if_eq 109 105 dX1_does_102 rfl rfl (fun h => absurd h (by decide)) (fun _ => ?_)
        refine v_iconst (v := 1) 106 dX1_does_105 rfl ki_1 ?_
        refine v_goto 110 dX1_does_106 rfl ?_
        refine si_5_4 rfl 112 dX1_does_110 rfl rfl ?_
        refine li_5_4 114 dX1_does_112 rfl ?_
        refine v_if_eq 122 117 dX1_does_114 rfl rfl (fun h => absurd h (by decide)) (fun _ => ?_)
        refine la_5_0 118 dX1_does_117 rfl ?_
        refine li_5_3 119 dX1_does_118 rfl ?_
        refine v_cVN1 122 dX1_does_119 rfl fvX1_sendOff fiX1_sendOff ml_X1_136 (seX1 hb) rfl ⟨(Nat.le_of_ble_eq_true rfl), (Nat.le_of_ble_eq_true rfl)⟩ (Nat.le_of_ble_eq_true rfl) (Nat.le_of_ble_eq_true rfl) (c_X1_sendOff hb hC hkm (fun u1 hC1 hF1 => ⟨rfl, ?_⟩)) rfl
        refine li_5_4 124 dX1_does_122 rfl ?_
        refine v_zret dX1_does_124 rfl (Or.inr rfl) ?_
        exact hT _ _ (Or.inr (Or.inr (Or.inl ⟨hh, ha0, q99, rfl⟩))) hC1 hF1
      · refine v_if_eq 109 105 dX1_does_102 rfl rfl (fun _ => ?_) (fun h => absurd rfl h)
        refine v_iconst (v := 0) 110 dX1_does_109 rfl ki_0 ?_
        refine si_5_4 rfl 112 dX1_does_110 rfl rfl ?_
        refine li_5_4 114 dX1_does_112 rfl ?_
        refine v_if_eq 122 117 dX1_does_114 rfl rfl (fun _ => ?_) (fun h => absurd rfl h)
        refine li_5_4 124 dX1_does_122 rfl ?_
        refine v_zret dX1_does_124 rfl (Or.inl rfl) ?_
        exact hF (by rintro ⟨R, z⟩; rcases z with ⟨z, z2, z3, -⟩ | ⟨z, z2, -⟩ | ⟨z, z2, z3, -⟩ | ⟨z, z2, -⟩ <;> first | omega | exact q99 z3)
  · have hh : h = 3 := nI_inj (b := 3) (by omega) (by omega) h17_3
    refine la_5_0 126 dX1_does_125 rfl ?_
    refine li_5_2 127 dX1_does_126 rfl ?_
    refine li_5_3 128 dX1_does_127 rfl ?_
    refine v_cVI2 131 dX1_does_128 rfl fvX1_areJoined fiX1_areJoined ml_X1_66 (seX1 hb) rfl ⟨(Nat.le_of_ble_eq_true rfl), (Nat.le_of_ble_eq_true rfl)⟩ (Nat.le_of_ble_eq_true rfl) (Nat.le_of_ble_eq_true rfl) (c_X1_areJoined hb hC (fun q128 => ⟨_, rfl, ?_⟩) (fun q128 => ⟨_, rfl, ?_⟩)) rfl
    · have hkm := joinedQ_b h5 (by omega) (by omega) q128
      refine si_5_4 rfl 133 dX1_does_131 rfl rfl ?_
      refine li_5_4 135 dX1_does_133 rfl ?_
      refine v_if_eq 144 138 dX1_does_135 rfl rfl (fun h => absurd h (by decide)) (fun _ => ?_)
      refine la_5_0 139 dX1_does_138 rfl ?_
      refine li_5_2 140 dX1_does_139 rfl ?_
      refine li_5_3 141 dX1_does_140 rfl ?_
      refine v_cVN2 144 dX1_does_141 rfl fvX1_partTwo fiX1_partTwo ml_X1_139 (seX1 hb) rfl ⟨(Nat.le_of_ble_eq_true rfl), (Nat.le_of_ble_eq_true rfl)⟩ (Nat.le_of_ble_eq_true rfl) (Nat.le_of_ble_eq_true rfl) (c_X1_partTwo hb hC hkm.1 hkm.2 (fun u1 hC1 hF1 => ⟨rfl, ?_⟩)) rfl
      refine li_5_4 146 dX1_does_144 rfl ?_
      refine v_zret dX1_does_146 rfl (Or.inr rfl) ?_
      exact hT _ _ (Or.inr (Or.inr (Or.inr ⟨hh, q128, rfl⟩))) hC1 hF1
    · refine si_5_4 rfl 133 dX1_does_131 rfl rfl ?_
      refine li_5_4 135 dX1_does_133 rfl ?_
      refine v_if_eq 144 138 dX1_does_135 rfl rfl (fun _ => ?_) (fun h => absurd rfl h)
      refine li_5_4 146 dX1_does_144 rfl ?_
      refine v_zret dX1_does_146 rfl (Or.inl rfl) ?_
      exact hF (by rintro ⟨R, z⟩; rcases z with ⟨z, z2, z3, -⟩ | ⟨z, z2, -⟩ | ⟨z, z2, z3, -⟩ | ⟨z, z2, -⟩ <;> first | omega | exact q128 z2)
  · have g0 : ¬ h = 0 := fun z => n17_0 (by rw [z]; rfl)
    have g1 : ¬ h = 1 := fun z => n17_1 (by rw [z]; rfl)
    have g2 : ¬ h = 2 := fun z => n17_2 (by rw [z]; rfl)
    have g3 : ¬ h = 3 := fun z => n17_3 (by rw [z]; rfl)
    refine v_iconst (v := 0) 148 dX1_does_147 rfl ki_0 ?_
    refine v_zret dX1_does_148 rfl (Or.inl rfl) ?_
    exact hF (by rintro ⟨R, z⟩; rcases z with ⟨z, z2, z3, -⟩ | ⟨z, z2, -⟩ | ⟨z, z2, z3, -⟩ | ⟨z, z2, -⟩ <;> first | omega)

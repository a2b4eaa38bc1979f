/-- the reader: mode (0 not begun, 1 no part, 2 stamp, 3 join, 4 letter), figures, first, second, draft -/
abbrev RT : Type := Nat × Nat × Int32 × Int32 × PT
def fig (c : Int32) : Prop := ¬ c - 48 < 0 ∧ c - 48 ≤ 9
def opQ (P : PT) (c : Int32) : Prop := (c = 83 ∧ P.1.1 < 5) ∨ (c = 74 ∧ ∃ k, k < P.1.1 ∧ someQ P (nI k)) ∨ (c = 76 ∧ P.1.2.1 < 4)
def stepR (s : RT) (c : Int32) (t : RT) : Prop := match s with
  | (0, _, _, _, P) => c = 65 ∧ t = (1, 0, 0, 0, P)
  | (1, _, _, _, P) => opQ P c ∧ t = (if c = 83 then 2 else if c = 74 then 3 else 4, 0, 0, 0, P)
  | (2, 0, _, _, P) => fig c ∧ t = (2, 1, c - 48, 0, P)
  | (2, 1, f, _, P) => fig c ∧ t = (2, 2, f, c - 48, P)
  | (2, _, f, g, P) => fig c ∧ c - 48 ≤ 3 ∧ t = (1, 0, 0, 0, addS P f g (c - 48))
  | (3, 0, _, _, P) => fig c ∧ someQ P (c - 48) ∧ t = (3, 1, c - 48, 0, P)
  | (3, _, f, _, P) => fig c ∧ ∃ k m, k < P.1.1 ∧ m < P.1.1 ∧ f = nI k ∧ c - 48 = nI m ∧ joinQ P f (c - 48) ∧ t = (1, 0, 0, 0, joinP P k m)
  | (_, 0, _, _, P) => fig c ∧ ¬ c - 48 < 1 ∧ t = (4, 1, c - 48, 0, P)
  | (_, _, f, _, P) => fig c ∧ ¬ c - 48 < 1 ∧ t = (1, 0, 0, 0, addL P f (c - 48))
def rdR (w : Wd) (b : Nat) (s : RT) : Prop := match s with
  | (0, _, _, _, P) => isD w b P ∧ w.1 3 = 0 ∧ w.1 4 = 0
  | (1, _, _, _, P) => isD w b P ∧ w.1 3 = 1 ∧ w.1 4 = 0
  | (2, 0, _, _, P) => isD w b P ∧ w.1 3 = 1 ∧ w.1 4 = 83 ∧ w.1 5 = 0 ∧ P.1.1 < 5
  | (2, 1, f, _, P) => isD w b P ∧ w.1 3 = 1 ∧ w.1 4 = 83 ∧ w.1 5 = 1 ∧ w.1 6 = f ∧ P.1.1 < 5
  | (2, _, f, g, P) => isD w b P ∧ w.1 3 = 1 ∧ w.1 4 = 83 ∧ w.1 5 = 2 ∧ w.1 6 = f ∧ w.1 7 = g ∧ P.1.1 < 5
  | (3, 0, _, _, P) => isD w b P ∧ w.1 3 = 1 ∧ w.1 4 = 74 ∧ w.1 5 = 0
  | (3, _, f, _, P) => isD w b P ∧ w.1 3 = 1 ∧ w.1 4 = 74 ∧ w.1 5 = 1 ∧ w.1 6 = f
  | (_, 0, _, _, P) => isD w b P ∧ w.1 3 = 1 ∧ w.1 4 = 76 ∧ w.1 5 = 0 ∧ P.1.2.1 < 4
  | (_, _, f, _, P) => isD w b P ∧ w.1 3 = 1 ∧ w.1 4 = 76 ∧ w.1 5 = 1 ∧ w.1 6 = f ∧ P.1.2.1 < 4
set_option maxHeartbeats 4000000 in
set_option maxRecDepth 100000 in
theorem c_X2_begin {w : Wd} {Q : Option Value → Wd → Prop} (hQ : Q none (sI (sI w 3 0) 4 0)) : V mX2_begin 0 [some (.ref 2)] [] w Q := by
  refine la_1_0 1 dX2_begin_0 rfl ?_
  refine v_iconst (v := 0) 2 dX2_begin_1 rfl ki_0 ?_
  refine vs_X2_9 rfl 5 dX2_begin_2 rfl (Or.inl rfl) ?_
  refine la_1_0 6 dX2_begin_5 rfl ?_
  refine v_iconst (v := 0) 7 dX2_begin_6 rfl ki_0 ?_
  refine vs_X2_15 rfl 10 dX2_begin_7 rfl ?_
  refine v_vret dX2_begin_10 rfl ?_
  exact hQ
set_option maxHeartbeats 4000000 in
set_option maxRecDepth 100000 in
theorem c_X2_mayEnd {w : Wd} {Q : Option Value → Wd → Prop} (hT : ¬ w.1 3 = 0 → w.1 4 = 0 → Q (some (.int 1)) w) (hF : (w.1 3 = 0 ∨ ¬ w.1 4 = 0) → Q (some (.int 0)) w) : V mX2_mayEnd 0 [some (.ref 2)] [] w Q := by
  refine la_1_0 1 dX2_mayEnd_0 rfl ?_
  refine vg_X2_9 rfl 4 dX2_mayEnd_1 rfl ?_
  refine v_if_eq 18 7 dX2_mayEnd_4 rfl rfl (fun h4 => ?_) (fun h4 => ?_)
  · refine v_iconst (v := 0) 19 dX2_mayEnd_18 rfl ki_0 ?_
    refine v_zret dX2_mayEnd_19 rfl (Or.inl rfl) ?_
    exact hF (Or.inl h4)
  · refine la_1_0 8 dX2_mayEnd_7 rfl ?_
    refine vg_X2_15 rfl 11 dX2_mayEnd_8 rfl ?_
    refine v_if_ne 18 14 dX2_mayEnd_11 rfl rfl (fun h11 => ?_) (fun h11 => ?_)
    · refine v_iconst (v := 0) 19 dX2_mayEnd_18 rfl ki_0 ?_
      refine v_zret dX2_mayEnd_19 rfl (Or.inl rfl) ?_
      exact hF (Or.inr h11)
    · refine v_iconst (v := 1) 15 dX2_mayEnd_14 rfl ki_1 ?_
      refine v_goto 19 dX2_mayEnd_15 rfl ?_
      refine v_zret dX2_mayEnd_19 rfl (Or.inr rfl) ?_
      exact hT h4 h11
set_option maxHeartbeats 4000000 in
set_option maxRecDepth 100000 in
theorem c_hold0 {w : Wd} {x : Int32} (h5 : w.1 5 = 0) {Q : Option Value → Wd → Prop} (hQ : Q none (sI (sI w 6 x) 5 (w.1 5 + 1))) : V mX2_hold 0 [some (.ref 2), some (.int x)] [] w Q := by
  refine la_2_0 1 dX2_hold_0 rfl ?_
  refine vg_X2_44 rfl 4 dX2_hold_1 rfl ?_
  refine v_if_ne 15 7 dX2_hold_4 rfl rfl (fun h4 => ?_) (fun h4 => ?_)
  · exact absurd h5 h4
  · refine la_2_0 8 dX2_hold_7 rfl ?_
    refine li_2_1 9 dX2_hold_8 rfl ?_
    refine vs_X2_51 rfl 12 dX2_hold_9 rfl ?_
    refine v_goto 20 dX2_hold_12 rfl ?_
    refine la_2_0 21 dX2_hold_20 rfl ?_
    refine v_dup 22 dX2_hold_21 rfl rfl ?_
    refine vg_X2_44 rfl 25 dX2_hold_22 rfl ?_
    refine v_iconst (v := 1) 26 dX2_hold_25 rfl ki_1 ?_
    refine v_iadd 27 dX2_hold_26 rfl ?_
    refine vs_X2_44 rfl 30 dX2_hold_27 rfl ?_
    refine v_vret dX2_hold_30 rfl ?_
    exact hQ
set_option maxHeartbeats 4000000 in
set_option maxRecDepth 100000 in
theorem c_hold1 {w : Wd} {x : Int32} (h5 : ¬ w.1 5 = 0) {Q : Option Value → Wd → Prop} (hQ : Q none (sI (sI w 7 x) 5 (w.1 5 + 1))) : V mX2_hold 0 [some (.ref 2), some (.int x)] [] w Q := by
  refine la_2_0 1 dX2_hold_0 rfl ?_
  refine vg_X2_44 rfl 4 dX2_hold_1 rfl ?_
  refine v_if_ne 15 7 dX2_hold_4 rfl rfl (fun h4 => ?_) (fun h4 => ?_)
  · refine la_2_0 16 dX2_hold_15 rfl ?_
    refine li_2_1 17 dX2_hold_16 rfl ?_
    refine vs_X2_54 rfl 20 dX2_hold_17 rfl ?_
    refine la_2_0 21 dX2_hold_20 rfl ?_
    refine v_dup 22 dX2_hold_21 rfl rfl ?_
    refine vg_X2_44 rfl 25 dX2_hold_22 rfl ?_
    refine v_iconst (v := 1) 26 dX2_hold_25 rfl ki_1 ?_
    refine v_iadd 27 dX2_hold_26 rfl ?_
    refine vs_X2_44 rfl 30 dX2_hold_27 rfl ?_
    refine v_vret dX2_hold_30 rfl ?_
    exact hQ
  · exact absurd h4 h5
set_option maxHeartbeats 4000000 in
set_option maxRecDepth 100000 in
theorem c_X2_opens {b : Nat} (hb : b < 2) {w : Wd} {P : PT} (hD : isD w b P) {c : Int32} {Q : Option Value → Wd → Prop} (hT : opQ P c → Q (some (.int 1)) (sI (sI w 4 c) 5 0)) (hF : ¬ opQ P c → Q (some (.int 0)) w) : V mX2_opens 0 [some (.ref 2), some (.int c), some (.ref (pr b)), none] [] w Q := by
  have h5 := hD.1.2.2.2.2.1
  have h4 := hD.1.2.2.2.2.2.1
  refine li_4_1 1 dX2_opens_0 rfl ?_
  refine v_bipush (v := 83) 3 dX2_opens_1 rfl kb_83 ?_
  refine v_icmp_ne 14 6 dX2_opens_3 rfl rfl (fun h3 => ?_) (fun h3 => ?_)
  · refine li_4_1 15 dX2_opens_14 rfl ?_
    refine v_bipush (v := 74) 17 dX2_opens_15 rfl kb_74 ?_
    refine v_icmp_ne 27 20 dX2_opens_17 rfl rfl (fun h17 => ?_) (fun h17 => ?_)
    · refine li_4_1 28 dX2_opens_27 rfl ?_
      refine v_bipush (v := 76) 30 dX2_opens_28 rfl kb_76 ?_
      refine v_icmp_ne 45 33 dX2_opens_30 rfl rfl (fun h30 => ?_) (fun h30 => ?_)
      · refine v_iconst (v := 0) 46 dX2_opens_45 rfl ki_0 ?_
        refine si_4_3 rfl 47 dX2_opens_46 rfl rfl ?_
        refine li_4_3 48 dX2_opens_47 rfl ?_
        refine v_if_eq 61 51 dX2_opens_48 rfl rfl (fun _ => ?_) (fun h => absurd rfl h)
        refine li_4_3 62 dX2_opens_61 rfl ?_
        refine v_zret dX2_opens_62 rfl (Or.inl rfl) ?_
        first
          | exact hT (Or.inl ⟨h3, g11⟩)
          | exact hT (Or.inr (Or.inl ⟨h17, q21⟩))
          | exact hT (Or.inr (Or.inr ⟨h30, g38⟩))
          | exact hF (by rintro (⟨z, z2⟩ | ⟨z, z2⟩ | ⟨z, z2⟩) <;> first | exact absurd z ‹_› | exact absurd z2 ‹_› | (subst z; exact absurd ‹_› (by decide)))
      · refine la_4_2 34 dX2_opens_33 rfl ?_
        refine vgq_X2_41 hb hD.1 rfl 37 dX2_opens_34 rfl ?_
        refine v_iconst (v := 4) 38 dX2_opens_37 rfl ki_4 ?_
        refine v_icmp_ge 45 41 dX2_opens_38 rfl rfl (fun h38 => ?_) (fun h38 => ?_)
        · have g38 : ¬ P.1.2.1 < 4 := fun z => absurd h38 (nI_ge (b := 4) z (by omega))
          refine v_iconst (v := 0) 46 dX2_opens_45 rfl ki_0 ?_
          refine si_4_3 rfl 47 dX2_opens_46 rfl rfl ?_
          refine li_4_3 48 dX2_opens_47 rfl ?_
          refine v_if_eq 61 51 dX2_opens_48 rfl rfl (fun _ => ?_) (fun h => absurd rfl h)
          refine li_4_3 62 dX2_opens_61 rfl ?_
          refine v_zret dX2_opens_62 rfl (Or.inl rfl) ?_
          first
            | exact hT (Or.inl ⟨h3, g11⟩)
            | exact hT (Or.inr (Or.inl ⟨h17, q21⟩))
            | exact hT (Or.inr (Or.inr ⟨h30, g38⟩))
            | exact hF (by rintro (⟨z, z2⟩ | ⟨z, z2⟩ | ⟨z, z2⟩) <;> first | exact absurd z ‹_› | exact absurd z2 ‹_› | (subst z; exact absurd ‹_› (by decide)))
        · have g38 : P.1.2.1 < 4 := ge_lt (n := 4) h38 (by omega) (by omega)
          refine v_iconst (v := 1) 42 dX2_opens_41 rfl ki_1 ?_
          refine v_goto 46 dX2_opens_42 rfl ?_
          refine si_4_3 rfl 47 dX2_opens_46 rfl rfl ?_
          refine li_4_3 48 dX2_opens_47 rfl ?_
          refine v_if_eq 61 51 dX2_opens_48 rfl rfl (fun h => absurd h (by decide)) (fun _ => ?_)
          refine la_4_0 52 dX2_opens_51 rfl ?_
          refine li_4_1 53 dX2_opens_52 rfl ?_
          refine vs_X2_15 rfl 56 dX2_opens_53 rfl ?_
          refine la_4_0 57 dX2_opens_56 rfl ?_
          refine v_iconst (v := 0) 58 dX2_opens_57 rfl ki_0 ?_
          refine vs_X2_44 rfl 61 dX2_opens_58 rfl ?_
          refine li_4_3 62 dX2_opens_61 rfl ?_
          refine v_zret dX2_opens_62 rfl (Or.inr rfl) ?_
          first
            | exact hT (Or.inl ⟨h3, g11⟩)
            | exact hT (Or.inr (Or.inl ⟨h17, q21⟩))
            | exact hT (Or.inr (Or.inr ⟨h30, g38⟩))
            | exact hF (by rintro (⟨z, z2⟩ | ⟨z, z2⟩ | ⟨z, z2⟩) <;> first | exact absurd z ‹_› | exact absurd z2 ‹_› | (subst z; exact absurd ‹_› (by decide)))
    · refine la_4_2 21 dX2_opens_20 rfl ?_
      refine v_cVI0 24 dX2_opens_21 rfl fvX1_canJoinAny fiX1_canJoinAny ml_X2_37 (seX1 hb) rfl ⟨(Nat.le_of_ble_eq_true rfl), (Nat.le_of_ble_eq_true rfl)⟩ (Nat.le_of_ble_eq_true rfl) (Nat.le_of_ble_eq_true rfl) (c_X1_canJoinAny hb hD.1 (fun q21 => ⟨_, rfl, ?_⟩) (fun q21 => ⟨_, rfl, ?_⟩)) rfl
      · refine v_if_ne 41 27 dX2_opens_24 rfl rfl (fun _ => ?_) (fun h => absurd h (by decide))
        refine v_iconst (v := 1) 42 dX2_opens_41 rfl ki_1 ?_
        refine v_goto 46 dX2_opens_42 rfl ?_
        refine si_4_3 rfl 47 dX2_opens_46 rfl rfl ?_
        refine li_4_3 48 dX2_opens_47 rfl ?_
        refine v_if_eq 61 51 dX2_opens_48 rfl rfl (fun h => absurd h (by decide)) (fun _ => ?_)
        refine la_4_0 52 dX2_opens_51 rfl ?_
        refine li_4_1 53 dX2_opens_52 rfl ?_
        refine vs_X2_15 rfl 56 dX2_opens_53 rfl ?_
        refine la_4_0 57 dX2_opens_56 rfl ?_
        refine v_iconst (v := 0) 58 dX2_opens_57 rfl ki_0 ?_
        refine vs_X2_44 rfl 61 dX2_opens_58 rfl ?_
        refine li_4_3 62 dX2_opens_61 rfl ?_
        refine v_zret dX2_opens_62 rfl (Or.inr rfl) ?_
        first
          | exact hT (Or.inl ⟨h3, g11⟩)
          | exact hT (Or.inr (Or.inl ⟨h17, q21⟩))
          | exact hT (Or.inr (Or.inr ⟨h30, g38⟩))
          | exact hF (by rintro (⟨z, z2⟩ | ⟨z, z2⟩ | ⟨z, z2⟩) <;> first | exact absurd z ‹_› | exact absurd z2 ‹_› | (subst z; exact absurd ‹_› (by decide)))
      · refine v_if_ne 41 27 dX2_opens_24 rfl rfl (fun h => absurd rfl h) (fun _ => ?_)
        refine li_4_1 28 dX2_opens_27 rfl ?_
        refine v_bipush (v := 76) 30 dX2_opens_28 rfl kb_76 ?_
        refine v_icmp_ne 45 33 dX2_opens_30 rfl rfl (fun h30 => ?_) (fun h30 => ?_)
        · refine v_iconst (v := 0) 46 dX2_opens_45 rfl ki_0 ?_
          refine si_4_3 rfl 47 dX2_opens_46 rfl rfl ?_
          refine li_4_3 48 dX2_opens_47 rfl ?_
          refine v_if_eq 61 51 dX2_opens_48 rfl rfl (fun _ => ?_) (fun h => absurd rfl h)
          refine li_4_3 62 dX2_opens_61 rfl ?_
          refine v_zret dX2_opens_62 rfl (Or.inl rfl) ?_
          first
            | exact hT (Or.inl ⟨h3, g11⟩)
            | exact hT (Or.inr (Or.inl ⟨h17, q21⟩))
            | exact hT (Or.inr (Or.inr ⟨h30, g38⟩))
            | exact hF (by rintro (⟨z, z2⟩ | ⟨z, z2⟩ | ⟨z, z2⟩) <;> first | exact absurd z ‹_› | exact absurd z2 ‹_› | (subst z; exact absurd ‹_› (by decide)))
        · refine la_4_2 34 dX2_opens_33 rfl ?_
          refine vgq_X2_41 hb hD.1 rfl 37 dX2_opens_34 rfl ?_
          refine v_iconst (v := 4) 38 dX2_opens_37 rfl ki_4 ?_
          refine v_icmp_ge 45 41 dX2_opens_38 rfl rfl (fun h38 => ?_) (fun h38 => ?_)
          · have g38 : ¬ P.1.2.1 < 4 := fun z => absurd h38 (nI_ge (b := 4) z (by omega))
            refine v_iconst (v := 0) 46 dX2_opens_45 rfl ki_0 ?_
            refine si_4_3 rfl 47 dX2_opens_46 rfl rfl ?_
            refine li_4_3 48 dX2_opens_47 rfl ?_
            refine v_if_eq 61 51 dX2_opens_48 rfl rfl (fun _ => ?_) (fun h => absurd rfl h)
            refine li_4_3 62 dX2_opens_61 rfl ?_
            refine v_zret dX2_opens_62 rfl (Or.inl rfl) ?_
            first
              | exact hT (Or.inl ⟨h3, g11⟩)
              | exact hT (Or.inr (Or.inl ⟨h17, q21⟩))
              | exact hT (Or.inr (Or.inr ⟨h30, g38⟩))
              | exact hF (by rintro (⟨z, z2⟩ | ⟨z, z2⟩ | ⟨z, z2⟩) <;> first | exact absurd z ‹_› | exact absurd z2 ‹_› | (subst z; exact absurd ‹_› (by decide)))
          · have g38 : P.1.2.1 < 4 := ge_lt (n := 4) h38 (by omega) (by omega)
            refine v_iconst (v := 1) 42 dX2_opens_41 rfl ki_1 ?_
            refine v_goto 46 dX2_opens_42 rfl ?_
            refine si_4_3 rfl 47 dX2_opens_46 rfl rfl ?_
            refine li_4_3 48 dX2_opens_47 rfl ?_
            refine v_if_eq 61 51 dX2_opens_48 rfl rfl (fun h => absurd h (by decide)) (fun _ => ?_)
            refine la_4_0 52 dX2_opens_51 rfl ?_
            refine li_4_1 53 dX2_opens_52 rfl ?_
            refine vs_X2_15 rfl 56 dX2_opens_53 rfl ?_
            refine la_4_0 57 dX2_opens_56 rfl ?_
            refine v_iconst (v := 0) 58 dX2_opens_57 rfl ki_0 ?_
            refine vs_X2_44 rfl 61 dX2_opens_58 rfl ?_
            refine li_4_3 62 dX2_opens_61 rfl ?_
            refine v_zret dX2_opens_62 rfl (Or.inr rfl) ?_
            first
              | exact hT (Or.inl ⟨h3, g11⟩)
              | exact hT (Or.inr (Or.inl ⟨h17, q21⟩))
              | exact hT (Or.inr (Or.inr ⟨h30, g38⟩))
              | exact hF (by rintro (⟨z, z2⟩ | ⟨z, z2⟩ | ⟨z, z2⟩) <;> first | exact absurd z ‹_› | exact absurd z2 ‹_› | (subst z; exact absurd ‹_› (by decide)))
  · refine la_4_2 7 dX2_opens_6 rfl ?_
    refine vgq_X2_32 hb hD.1 rfl 10 dX2_opens_7 rfl ?_
    refine v_iconst (v := 5) 11 dX2_opens_10 rfl ki_5 ?_
    refine v_icmp_lt 41 14 dX2_opens_11 rfl rfl (fun h11 => ?_) (fun h11 => ?_)
    · have g11 : P.1.1 < 5 := (nI_ltI (b := 5) (by omega) (by omega)).mp h11
      refine v_iconst (v := 1) 42 dX2_opens_41 rfl ki_1 ?_
      refine v_goto 46 dX2_opens_42 rfl ?_
      refine si_4_3 rfl 47 dX2_opens_46 rfl rfl ?_
      refine li_4_3 48 dX2_opens_47 rfl ?_
      refine v_if_eq 61 51 dX2_opens_48 rfl rfl (fun h => absurd h (by decide)) (fun _ => ?_)
      refine la_4_0 52 dX2_opens_51 rfl ?_
      refine li_4_1 53 dX2_opens_52 rfl ?_
      refine vs_X2_15 rfl 56 dX2_opens_53 rfl ?_
      refine la_4_0 57 dX2_opens_56 rfl ?_
      refine v_iconst (v := 0) 58 dX2_opens_57 rfl ki_0 ?_
      refine vs_X2_44 rfl 61 dX2_opens_58 rfl ?_
      refine li_4_3 62 dX2_opens_61 rfl ?_
      refine v_zret dX2_opens_62 rfl (Or.inr rfl) ?_
      first
        | exact hT (Or.inl ⟨h3, g11⟩)
        | exact hT (Or.inr (Or.inl ⟨h17, q21⟩))
        | exact hT (Or.inr (Or.inr ⟨h30, g38⟩))
        | exact hF (by rintro (⟨z, z2⟩ | ⟨z, z2⟩ | ⟨z, z2⟩) <;> first | exact absurd z ‹_› | exact absurd z2 ‹_› | (subst z; exact absurd ‹_› (by decide)))
    · have g11 : ¬ P.1.1 < 5 := fun z => h11 ((nI_ltI (b := 5) (by omega) (by omega)).mpr z)
      refine li_4_1 15 dX2_opens_14 rfl ?_
      refine v_bipush (v := 74) 17 dX2_opens_15 rfl kb_74 ?_
      refine v_icmp_ne 27 20 dX2_opens_17 rfl rfl (fun h17 => ?_) (fun h17 => ?_)
      · refine li_4_1 28 dX2_opens_27 rfl ?_
        refine v_bipush (v := 76) 30 dX2_opens_28 rfl kb_76 ?_
        refine v_icmp_ne 45 33 dX2_opens_30 rfl rfl (fun h30 => ?_) (fun h30 => ?_)
        · refine v_iconst (v := 0) 46 dX2_opens_45 rfl ki_0 ?_
          refine si_4_3 rfl 47 dX2_opens_46 rfl rfl ?_
          refine li_4_3 48 dX2_opens_47 rfl ?_
          refine v_if_eq 61 51 dX2_opens_48 rfl rfl (fun _ => ?_) (fun h => absurd rfl h)
          refine li_4_3 62 dX2_opens_61 rfl ?_
          refine v_zret dX2_opens_62 rfl (Or.inl rfl) ?_
          first
            | exact hT (Or.inl ⟨h3, g11⟩)
            | exact hT (Or.inr (Or.inl ⟨h17, q21⟩))
            | exact hT (Or.inr (Or.inr ⟨h30, g38⟩))
            | exact hF (by rintro (⟨z, z2⟩ | ⟨z, z2⟩ | ⟨z, z2⟩) <;> first | exact absurd z ‹_› | exact absurd z2 ‹_› | (subst z; exact absurd ‹_› (by decide)))
        · refine la_4_2 34 dX2_opens_33 rfl ?_
          refine vgq_X2_41 hb hD.1 rfl 37 dX2_opens_34 rfl ?_
          refine v_iconst (v := 4) 38 dX2_opens_37 rfl ki_4 ?_
          refine v_icmp_ge 45 41 dX2_opens_38 rfl rfl (fun h38 => ?_) (fun h38 => ?_)
          · have g38 : ¬ P.1.2.1 < 4 := fun z => absurd h38 (nI_ge (b := 4) z (by omega))
            refine v_iconst (v := 0) 46 dX2_opens_45 rfl ki_0 ?_
            refine si_4_3 rfl 47 dX2_opens_46 rfl rfl ?_
            refine li_4_3 48 dX2_opens_47 rfl ?_
            refine v_if_eq 61 51 dX2_opens_48 rfl rfl (fun _ => ?_) (fun h => absurd rfl h)
            refine li_4_3 62 dX2_opens_61 rfl ?_
            refine v_zret dX2_opens_62 rfl (Or.inl rfl) ?_
            first
              | exact hT (Or.inl ⟨h3, g11⟩)
              | exact hT (Or.inr (Or.inl ⟨h17, q21⟩))
              | exact hT (Or.inr (Or.inr ⟨h30, g38⟩))
              | exact hF (by rintro (⟨z, z2⟩ | ⟨z, z2⟩ | ⟨z, z2⟩) <;> first | exact absurd z ‹_› | exact absurd z2 ‹_› | (subst z; exact absurd ‹_› (by decide)))
          · have g38 : P.1.2.1 < 4 := ge_lt (n := 4) h38 (by omega) (by omega)
            refine v_iconst (v := 1) 42 dX2_opens_41 rfl ki_1 ?_
            refine v_goto 46 dX2_opens_42 rfl ?_
            refine si_4_3 rfl 47 dX2_opens_46 rfl rfl ?_
            refine li_4_3 48 dX2_opens_47 rfl ?_
            refine v_if_eq 61 51 dX2_opens_48 rfl rfl (fun h => absurd h (by decide)) (fun _ => ?_)
            refine la_4_0 52 dX2_opens_51 rfl ?_
            refine li_4_1 53 dX2_opens_52 rfl ?_
            refine vs_X2_15 rfl 56 dX2_opens_53 rfl ?_
            refine la_4_0 57 dX2_opens_56 rfl ?_
            refine v_iconst (v := 0) 58 dX2_opens_57 rfl ki_0 ?_
            refine vs_X2_44 rfl 61 dX2_opens_58 rfl ?_
            refine li_4_3 62 dX2_opens_61 rfl ?_
            refine v_zret dX2_opens_62 rfl (Or.inr rfl) ?_
            first
              | exact hT (Or.inl ⟨h3, g11⟩)
              | exact hT (Or.inr (Or.inl ⟨h17, q21⟩))
              | exact hT (Or.inr (Or.inr ⟨h30, g38⟩))
              | exact hF (by rintro (⟨z, z2⟩ | ⟨z, z2⟩ | ⟨z, z2⟩) <;> first | exact absurd z ‹_› | exact absurd z2 ‹_› | (subst z; exact absurd ‹_› (by decide)))
      · refine la_4_2 21 dX2_opens_20 rfl ?_
        refine v_cVI0 24 dX2_opens_21 rfl fvX1_canJoinAny fiX1_canJoinAny ml_X2_37 (seX1 hb) rfl ⟨(Nat.le_of_ble_eq_true rfl), (Nat.le_of_ble_eq_true rfl)⟩ (Nat.le_of_ble_eq_true rfl) (Nat.le_of_ble_eq_true rfl) (c_X1_canJoinAny hb hD.1 (fun q21 => ⟨_, rfl, ?_⟩) (fun q21 => ⟨_, rfl, ?_⟩)) rfl
        · refine v_if_ne 41 27 dX2_opens_24 rfl rfl (fun _ => ?_) (fun h => absurd h (by decide))
          refine v_iconst (v := 1) 42 dX2_opens_41 rfl ki_1 ?_
          refine v_goto 46 dX2_opens_42 rfl ?_
          refine si_4_3 rfl 47 dX2_opens_46 rfl rfl ?_
          refine li_4_3 48 dX2_opens_47 rfl ?_
          refine v_if_eq 61 51 dX2_opens_48 rfl rfl (fun h => absurd h (by decide)) (fun _ => ?_)
          refine la_4_0 52 dX2_opens_51 rfl ?_
          refine li_4_1 53 dX2_opens_52 rfl ?_
          refine vs_X2_15 rfl 56 dX2_opens_53 rfl ?_
          refine la_4_0 57 dX2_opens_56 rfl ?_
          refine v_iconst (v := 0) 58 dX2_opens_57 rfl ki_0 ?_
          refine vs_X2_44 rfl 61 dX2_opens_58 rfl ?_
          refine li_4_3 62 dX2_opens_61 rfl ?_
          refine v_zret dX2_opens_62 rfl (Or.inr rfl) ?_
          first
            | exact hT (Or.inl ⟨h3, g11⟩)
            | exact hT (Or.inr (Or.inl ⟨h17, q21⟩))
            | exact hT (Or.inr (Or.inr ⟨h30, g38⟩))
            | exact hF (by rintro (⟨z, z2⟩ | ⟨z, z2⟩ | ⟨z, z2⟩) <;> first | exact absurd z ‹_› | exact absurd z2 ‹_› | (subst z; exact absurd ‹_› (by decide)))
        · refine v_if_ne 41 27 dX2_opens_24 rfl rfl (fun h => absurd rfl h) (fun _ => ?_)
          refine li_4_1 28 dX2_opens_27 rfl ?_
          refine v_bipush (v := 76) 30 dX2_opens_28 rfl kb_76 ?_
          refine v_icmp_ne 45 33 dX2_opens_30 rfl rfl (fun h30 => ?_) (fun h30 => ?_)
          · refine v_iconst (v := 0) 46 dX2_opens_45 rfl ki_0 ?_
            refine si_4_3 rfl 47 dX2_opens_46 rfl rfl ?_
            refine li_4_3 48 dX2_opens_47 rfl ?_
            refine v_if_eq 61 51 dX2_opens_48 rfl rfl (fun _ => ?_) (fun h => absurd rfl h)
            refine li_4_3 62 dX2_opens_61 rfl ?_
            refine v_zret dX2_opens_62 rfl (Or.inl rfl) ?_
            first
              | exact hT (Or.inl ⟨h3, g11⟩)
              | exact hT (Or.inr (Or.inl ⟨h17, q21⟩))
              | exact hT (Or.inr (Or.inr ⟨h30, g38⟩))
              | exact hF (by rintro (⟨z, z2⟩ | ⟨z, z2⟩ | ⟨z, z2⟩) <;> first | exact absurd z ‹_› | exact absurd z2 ‹_› | (subst z; exact absurd ‹_› (by decide)))
          · refine la_4_2 34 dX2_opens_33 rfl ?_
            refine vgq_X2_41 hb hD.1 rfl 37 dX2_opens_34 rfl ?_
            refine v_iconst (v := 4) 38 dX2_opens_37 rfl ki_4 ?_
            refine v_icmp_ge 45 41 dX2_opens_38 rfl rfl (fun h38 => ?_) (fun h38 => ?_)
            · have g38 : ¬ P.1.2.1 < 4 := fun z => absurd h38 (nI_ge (b := 4) z (by omega))
              refine v_iconst (v := 0) 46 dX2_opens_45 rfl ki_0 ?_
              refine si_4_3 rfl 47 dX2_opens_46 rfl rfl ?_
              refine li_4_3 48 dX2_opens_47 rfl ?_
              refine v_if_eq 61 51 dX2_opens_48 rfl rfl (fun _ => ?_) (fun h => absurd rfl h)
              refine li_4_3 62 dX2_opens_61 rfl ?_
              refine v_zret dX2_opens_62 rfl (Or.inl rfl) ?_
              first
                | exact hT (Or.inl ⟨h3, g11⟩)
                | exact hT (Or.inr (Or.inl ⟨h17, q21⟩))
                | exact hT (Or.inr (Or.inr ⟨h30, g38⟩))
                | exact hF (by rintro (⟨z, z2⟩ | ⟨z, z2⟩ | ⟨z, z2⟩) <;> first | exact absurd z ‹_› | exact absurd z2 ‹_› | (subst z; exact absurd ‹_› (by decide)))
            · have g38 : P.1.2.1 < 4 := ge_lt (n := 4) h38 (by omega) (by omega)
              refine v_iconst (v := 1) 42 dX2_opens_41 rfl ki_1 ?_
              refine v_goto 46 dX2_opens_42 rfl ?_
              refine si_4_3 rfl 47 dX2_opens_46 rfl rfl ?_
              refine li_4_3 48 dX2_opens_47 rfl ?_
              refine v_if_eq 61 51 dX2_opens_48 rfl rfl (fun h => absurd h (by decide)) (fun _ => ?_)
              refine la_4_0 52 dX2_opens_51 rfl ?_
              refine li_4_1 53 dX2_opens_52 rfl ?_
              refine vs_X2_15 rfl 56 dX2_opens_53 rfl ?_
              refine la_4_0 57 dX2_opens_56 rfl ?_
              refine v_iconst (v := 0) 58 dX2_opens_57 rfl ki_0 ?_
              refine vs_X2_44 rfl 61 dX2_opens_58 rfl ?_
              refine li_4_3 62 dX2_opens_61 rfl ?_
              refine v_zret dX2_opens_62 rfl (Or.inr rfl) ?_
              first
                | exact hT (Or.inl ⟨h3, g11⟩)
                | exact hT (Or.inr (Or.inl ⟨h17, q21⟩))
                | exact hT (Or.inr (Or.inr ⟨h30, g38⟩))
                | exact hF (by rintro (⟨z, z2⟩ | ⟨z, z2⟩ | ⟨z, z2⟩) <;> first | exact absurd z ‹_› | exact absurd z2 ‹_› | (subst z; exact absurd ‹_› (by decide)))
set_option maxHeartbeats 4000000 in
set_option maxRecDepth 100000 in
theorem c_tS0 {b : Nat} (hb : b < 2) {w : Wd} {P : PT} (hD : isD w b P) {x : Int32} (h50 : w.1 5 = 0) {Q : Option Value → Wd → Prop} (hQ : Q (some (.int 1)) (sI (sI w 6 x) 5 (w.1 5 + 1))) : V mX2_takesOfStamp 0 [some (.ref 2), some (.int x), some (.ref (pr b))] [] w Q := by
  refine la_3_0 1 dX2_takesOfStamp_0 rfl ?_
  refine vg_X2_44 rfl 4 dX2_takesOfStamp_1 rfl ?_
  refine v_iconst (v := 2) 5 dX2_takesOfStamp_4 rfl ki_2 ?_
  refine v_icmp_ge 15 8 dX2_takesOfStamp_5 rfl rfl (fun h5 => ?_) (fun h5 => ?_)
  · exact absurd h5 (by rw [h50]; decide)
  · refine la_3_0 9 dX2_takesOfStamp_8 rfl ?_
    refine li_3_1 10 dX2_takesOfStamp_9 rfl ?_
    refine v_cVN1 13 dX2_takesOfStamp_10 rfl fvX2_hold fiX2_hold ml_X2_47 (seX2) rfl ⟨(Nat.le_of_ble_eq_true rfl), (Nat.le_of_ble_eq_true rfl)⟩ (Nat.le_of_ble_eq_true rfl) (Nat.le_of_ble_eq_true rfl) (c_hold0 h50 ⟨rfl, ?_⟩) rfl
    refine v_iconst (v := 1) 14 dX2_takesOfStamp_13 rfl ki_1 ?_
    refine v_zret dX2_takesOfStamp_14 rfl (Or.inr rfl) ?_
    exact hQ
set_option maxHeartbeats 4000000 in
set_option maxRecDepth 100000 in
theorem c_tS1 {b : Nat} (hb : b < 2) {w : Wd} {P : PT} (hD : isD w b P) {x : Int32} (h50 : w.1 5 = 1) {Q : Option Value → Wd → Prop} (hQ : Q (some (.int 1)) (sI (sI w 7 x) 5 (w.1 5 + 1))) : V mX2_takesOfStamp 0 [some (.ref 2), some (.int x), some (.ref (pr b))] [] w Q := by
  refine la_3_0 1 dX2_takesOfStamp_0 rfl ?_
  refine vg_X2_44 rfl 4 dX2_takesOfStamp_1 rfl ?_
  refine v_iconst (v := 2) 5 dX2_takesOfStamp_4 rfl ki_2 ?_
  refine v_icmp_ge 15 8 dX2_takesOfStamp_5 rfl rfl (fun h5 => ?_) (fun h5 => ?_)
  · exact absurd h5 (by rw [h50]; decide)
  · refine la_3_0 9 dX2_takesOfStamp_8 rfl ?_
    refine li_3_1 10 dX2_takesOfStamp_9 rfl ?_
    refine v_cVN1 13 dX2_takesOfStamp_10 rfl fvX2_hold fiX2_hold ml_X2_47 (seX2) rfl ⟨(Nat.le_of_ble_eq_true rfl), (Nat.le_of_ble_eq_true rfl)⟩ (Nat.le_of_ble_eq_true rfl) (Nat.le_of_ble_eq_true rfl) (c_hold1 (by rw [h50]; decide) ⟨rfl, ?_⟩) rfl
    refine v_iconst (v := 1) 14 dX2_takesOfStamp_13 rfl ki_1 ?_
    refine v_zret dX2_takesOfStamp_14 rfl (Or.inr rfl) ?_
    exact hQ
set_option maxHeartbeats 4000000 in
set_option maxRecDepth 100000 in
theorem c_tS2 {b : Nat} (hb : b < 2) {w : Wd} {P : PT} (hD : isD w b P) (hn : P.1.1 < 5) {x : Int32} (h50 : w.1 5 = 2) {Q : Option Value → Wd → Prop} (hT : x ≤ 3 → ∀ u, isD u b (addS P (w.1 6) (w.1 7) x) → Fr b w u → Q (some (.int 1)) (sI u 4 0)) (hF : ¬ x ≤ 3 → Q (some (.int 0)) w) : V mX2_takesOfStamp 0 [some (.ref 2), some (.int x), some (.ref (pr b))] [] w Q := by
  refine la_3_0 1 dX2_takesOfStamp_0 rfl ?_
  refine vg_X2_44 rfl 4 dX2_takesOfStamp_1 rfl ?_
  refine v_iconst (v := 2) 5 dX2_takesOfStamp_4 rfl ki_2 ?_
  refine v_icmp_ge 15 8 dX2_takesOfStamp_5 rfl rfl (fun h5 => ?_) (fun h5 => ?_)
  · refine li_3_1 16 dX2_takesOfStamp_15 rfl ?_
    refine v_iconst (v := 3) 17 dX2_takesOfStamp_16 rfl ki_3 ?_
    refine v_icmp_le 22 20 dX2_takesOfStamp_17 rfl rfl (fun h17 => ?_) (fun h17 => ?_)
    · refine la_3_2 23 dX2_takesOfStamp_22 rfl ?_
      refine la_3_0 24 dX2_takesOfStamp_23 rfl ?_
      refine vg_X2_51 rfl 27 dX2_takesOfStamp_24 rfl ?_
      refine la_3_0 28 dX2_takesOfStamp_27 rfl ?_
      refine vg_X2_54 rfl 31 dX2_takesOfStamp_28 rfl ?_
      refine li_3_1 32 dX2_takesOfStamp_31 rfl ?_
      refine v_cVN3 35 dX2_takesOfStamp_32 rfl fvX1_addStamp fiX1_addStamp ml_X2_57 (seX1 hb) rfl ⟨(Nat.le_of_ble_eq_true rfl), (Nat.le_of_ble_eq_true rfl)⟩ (Nat.le_of_ble_eq_true rfl) (Nat.le_of_ble_eq_true rfl) (c_X1_addStamp hb hD hn (fun u1 hC1 hF1 => ⟨rfl, ?_⟩)) rfl
      refine la_3_0 36 dX2_takesOfStamp_35 rfl ?_
      refine v_iconst (v := 0) 37 dX2_takesOfStamp_36 rfl ki_0 ?_
      refine vs_X2_15 rfl 40 dX2_takesOfStamp_37 rfl ?_
      refine v_iconst (v := 1) 41 dX2_takesOfStamp_40 rfl ki_1 ?_
      refine v_zret dX2_takesOfStamp_41 rfl (Or.inr rfl) ?_
      exact hT h17 _ hC1 hF1
    · refine v_iconst (v := 0) 21 dX2_takesOfStamp_20 rfl ki_0 ?_
      refine v_zret dX2_takesOfStamp_21 rfl (Or.inl rfl) ?_
      exact hF h17
  · exact absurd (by rw [h50]; decide) h5
set_option maxHeartbeats 4000000 in
set_option maxRecDepth 100000 in
theorem c_tJ0 {b : Nat} (hb : b < 2) {w : Wd} {P : PT} (hD : isD w b P) {x : Int32} (h50 : w.1 5 = 0) {Q : Option Value → Wd → Prop} (hT : someQ P x → Q (some (.int 1)) (sI (sI w 6 x) 5 (w.1 5 + 1))) (hF : ¬ someQ P x → Q (some (.int 0)) (sI (sI w 6 x) 5 (w.1 5 + 1))) : V mX2_takesOfJoin 0 [some (.ref 2), some (.int x), some (.ref (pr b))] [] w Q := by
  refine la_3_0 1 dX2_takesOfJoin_0 rfl ?_
  refine vg_X2_44 rfl 4 dX2_takesOfJoin_1 rfl ?_
  refine v_if_ne 18 7 dX2_takesOfJoin_4 rfl rfl (fun h4 => ?_) (fun h4 => ?_)
  · exact absurd h50 h4
  · refine la_3_0 8 dX2_takesOfJoin_7 rfl ?_
    refine li_3_1 9 dX2_takesOfJoin_8 rfl ?_
    refine v_cVN1 12 dX2_takesOfJoin_9 rfl fvX2_hold fiX2_hold ml_X2_47 (seX2) rfl ⟨(Nat.le_of_ble_eq_true rfl), (Nat.le_of_ble_eq_true rfl)⟩ (Nat.le_of_ble_eq_true rfl) (Nat.le_of_ble_eq_true rfl) (c_hold0 h50 ⟨rfl, ?_⟩) rfl
    refine la_3_2 13 dX2_takesOfJoin_12 rfl ?_
    refine li_3_1 14 dX2_takesOfJoin_13 rfl ?_
    refine v_cVI1 17 dX2_takesOfJoin_14 rfl fvX1_canJoinSome fiX1_canJoinSome ml_X2_61 (seX1 hb) rfl ⟨(Nat.le_of_ble_eq_true rfl), (Nat.le_of_ble_eq_true rfl)⟩ (Nat.le_of_ble_eq_true rfl) (Nat.le_of_ble_eq_true rfl) (c_X1_canJoinSome hb (((hD.oR (by decide)).oR (by decide)).1) (fun q14 => ⟨_, rfl, ?_⟩) (fun q14 => ⟨_, rfl, ?_⟩)) rfl
    · refine v_zret dX2_takesOfJoin_17 rfl (Or.inr rfl) ?_
      exact hT q14
    · refine v_zret dX2_takesOfJoin_17 rfl (Or.inl rfl) ?_
      exact hF q14
set_option maxHeartbeats 4000000 in
set_option maxRecDepth 100000 in
theorem c_tJ1 {b : Nat} (hb : b < 2) {w : Wd} {P : PT} (hD : isD w b P) {x : Int32} (h50 : w.1 5 = 1) {Q : Option Value → Wd → Prop} (hT : ∀ k m, k < P.1.1 → m < P.1.1 → w.1 6 = nI k → x = nI m → joinQ P (w.1 6) x → ∀ u, isD u b (joinP P k m) → Fr b w u → Q (some (.int 1)) (sI u 4 0)) (hF : ¬ joinQ P (w.1 6) x → Q (some (.int 0)) w) : V mX2_takesOfJoin 0 [some (.ref 2), some (.int x), some (.ref (pr b))] [] w Q := by
  refine la_3_0 1 dX2_takesOfJoin_0 rfl ?_
  refine vg_X2_44 rfl 4 dX2_takesOfJoin_1 rfl ?_
  refine v_if_ne 18 7 dX2_takesOfJoin_4 rfl rfl (fun h4 => ?_) (fun h4 => ?_)
  · refine la_3_2 19 dX2_takesOfJoin_18 rfl ?_
    refine la_3_0 20 dX2_takesOfJoin_19 rfl ?_
    refine vg_X2_51 rfl 23 dX2_takesOfJoin_20 rfl ?_
    refine li_3_1 24 dX2_takesOfJoin_23 rfl ?_
    refine v_cVI2 27 dX2_takesOfJoin_24 rfl fvX1_canJoin fiX1_canJoin ml_X2_65 (seX1 hb) rfl ⟨(Nat.le_of_ble_eq_true rfl), (Nat.le_of_ble_eq_true rfl)⟩ (Nat.le_of_ble_eq_true rfl) (Nat.le_of_ble_eq_true rfl) (c_X1_canJoin hb hD.1 (fun q24 => ⟨_, rfl, ?_⟩) (fun q24 => ⟨_, rfl, ?_⟩)) rfl
    · obtain ⟨k, hk, e1⟩ := q24.1
      obtain ⟨m, hm, e2⟩ := q24.2.1
      refine v_if_ne 32 30 dX2_takesOfJoin_27 rfl rfl (fun _ => ?_) (fun h => absurd h (by decide))
      refine la_3_2 33 dX2_takesOfJoin_32 rfl ?_
      refine la_3_0 34 dX2_takesOfJoin_33 rfl ?_
      refine vg_X2_51 rfl 37 dX2_takesOfJoin_34 rfl ?_
      refine li_3_1 38 dX2_takesOfJoin_37 rfl ?_
      rw [e1]
      subst e2
      refine v_cVN2 41 dX2_takesOfJoin_38 rfl fvX1_joinTwo fiX1_joinTwo ml_X2_69 (seX1 hb) rfl ⟨(Nat.le_of_ble_eq_true rfl), (Nat.le_of_ble_eq_true rfl)⟩ (Nat.le_of_ble_eq_true rfl) (Nat.le_of_ble_eq_true rfl) (c_X1_joinTwo hb hD hk hm (fun u1 hC1 hF1 => ⟨rfl, ?_⟩)) rfl
      refine la_3_0 42 dX2_takesOfJoin_41 rfl ?_
      refine v_iconst (v := 0) 43 dX2_takesOfJoin_42 rfl ki_0 ?_
      refine vs_X2_15 rfl 46 dX2_takesOfJoin_43 rfl ?_
      refine v_iconst (v := 1) 47 dX2_takesOfJoin_46 rfl ki_1 ?_
      refine v_zret dX2_takesOfJoin_47 rfl (Or.inr rfl) ?_
      exact hT k m hk hm e1 rfl q24 _ hC1 hF1
    · refine v_if_ne 32 30 dX2_takesOfJoin_27 rfl rfl (fun h => absurd rfl h) (fun _ => ?_)
      refine v_iconst (v := 0) 31 dX2_takesOfJoin_30 rfl ki_0 ?_
      refine v_zret dX2_takesOfJoin_31 rfl (Or.inl rfl) ?_
      exact hF q24
  · exact absurd h4 (by rw [h50]; decide)
set_option maxHeartbeats 4000000 in
set_option maxRecDepth 100000 in
theorem c_tL0 {b : Nat} (hb : b < 2) {w : Wd} {P : PT} (hD : isD w b P) {x : Int32} (h50 : w.1 5 = 0) {Q : Option Value → Wd → Prop} (hT : ¬ x < 1 → Q (some (.int 1)) (sI (sI w 6 x) 5 (w.1 5 + 1))) (hF : x < 1 → Q (some (.int 0)) w) : V mX2_takesOfLetter 0 [some (.ref 2), some (.int x), some (.ref (pr b))] [] w Q := by
  refine li_3_1 1 dX2_takesOfLetter_0 rfl ?_
  refine v_iconst (v := 1) 2 dX2_takesOfLetter_1 rfl ki_1 ?_
  refine v_icmp_ge 7 5 dX2_takesOfLetter_2 rfl rfl (fun h2 => ?_) (fun h2 => ?_)
  · refine la_3_0 8 dX2_takesOfLetter_7 rfl ?_
    refine vg_X2_44 rfl 11 dX2_takesOfLetter_8 rfl ?_
    refine v_if_ne 21 14 dX2_takesOfLetter_11 rfl rfl (fun h11 => ?_) (fun h11 => ?_)
    · exact absurd h50 h11
    · refine la_3_0 15 dX2_takesOfLetter_14 rfl ?_
      refine li_3_1 16 dX2_takesOfLetter_15 rfl ?_
      refine v_cVN1 19 dX2_takesOfLetter_16 rfl fvX2_hold fiX2_hold ml_X2_47 (seX2) rfl ⟨(Nat.le_of_ble_eq_true rfl), (Nat.le_of_ble_eq_true rfl)⟩ (Nat.le_of_ble_eq_true rfl) (Nat.le_of_ble_eq_true rfl) (c_hold0 h50 ⟨rfl, ?_⟩) rfl
      refine v_iconst (v := 1) 20 dX2_takesOfLetter_19 rfl ki_1 ?_
      refine v_zret dX2_takesOfLetter_20 rfl (Or.inr rfl) ?_
      exact hT (i_nlt.mpr h2)
  · refine v_iconst (v := 0) 6 dX2_takesOfLetter_5 rfl ki_0 ?_
    refine v_zret dX2_takesOfLetter_6 rfl (Or.inl rfl) ?_
    exact hF (i_nle.mp h2)
set_option maxHeartbeats 4000000 in
set_option maxRecDepth 100000 in
theorem c_tL1 {b : Nat} (hb : b < 2) {w : Wd} {P : PT} (hD : isD w b P) (hn : P.1.2.1 < 4) {x : Int32} (h50 : w.1 5 = 1) {Q : Option Value → Wd → Prop} (hT : ¬ x < 1 → ∀ u, isD u b (addL P (w.1 6) x) → Fr b w u → Q (some (.int 1)) (sI u 4 0)) (hF : x < 1 → Q (some (.int 0)) w) : V mX2_takesOfLetter 0 [some (.ref 2), some (.int x), some (.ref (pr b))] [] w Q := by
  refine li_3_1 1 dX2_takesOfLetter_0 rfl ?_
  refine v_iconst (v := 1) 2 dX2_takesOfLetter_1 rfl ki_1 ?_
  refine v_icmp_ge 7 5 dX2_takesOfLetter_2 rfl rfl (fun h2 => ?_) (fun h2 => ?_)
  · refine la_3_0 8 dX2_takesOfLetter_7 rfl ?_
    refine vg_X2_44 rfl 11 dX2_takesOfLetter_8 rfl ?_
    refine v_if_ne 21 14 dX2_takesOfLetter_11 rfl rfl (fun h11 => ?_) (fun h11 => ?_)
    · refine la_3_2 22 dX2_takesOfLetter_21 rfl ?_
      refine la_3_0 23 dX2_takesOfLetter_22 rfl ?_
      refine vg_X2_51 rfl 26 dX2_takesOfLetter_23 rfl ?_
      refine li_3_1 27 dX2_takesOfLetter_26 rfl ?_
      refine v_cVN2 30 dX2_takesOfLetter_27 rfl fvX1_addLetter fiX1_addLetter ml_X2_73 (seX1 hb) rfl ⟨(Nat.le_of_ble_eq_true rfl), (Nat.le_of_ble_eq_true rfl)⟩ (Nat.le_of_ble_eq_true rfl) (Nat.le_of_ble_eq_true rfl) (c_X1_addLetter hb hD hn (fun u1 hC1 hF1 => ⟨rfl, ?_⟩)) rfl
      refine la_3_0 31 dX2_takesOfLetter_30 rfl ?_
      refine v_iconst (v := 0) 32 dX2_takesOfLetter_31 rfl ki_0 ?_
      refine vs_X2_15 rfl 35 dX2_takesOfLetter_32 rfl ?_
      refine v_iconst (v := 1) 36 dX2_takesOfLetter_35 rfl ki_1 ?_
      refine v_zret dX2_takesOfLetter_36 rfl (Or.inr rfl) ?_
      exact hT (i_nlt.mpr h2) _ hC1 hF1
    · exact absurd h11 (by rw [h50]; decide)
  · refine v_iconst (v := 0) 6 dX2_takesOfLetter_5 rfl ki_0 ?_
    refine v_zret dX2_takesOfLetter_6 rfl (Or.inl rfl) ?_
    exact hF (i_nle.mp h2)
set_option maxHeartbeats 4000000 in
set_option maxRecDepth 100000 in
theorem c_takes0 {b : Nat} (hb : b < 2) {w : Wd} {P : PT} {c f g : Int32} (hD : isD w b P) (h3 : w.1 3 = 0) (h40 : w.1 4 = 0) {Q : Option Value → Wd → Prop} (hT : ∀ t u, stepR (0, 0, f, g, P) c t → rdR u b t → FrR b w u → Q (some (.int 1)) u) (hF : (¬ ∃ t, stepR (0, 0, f, g, P) c t) → ∀ u, FrR b w u → Q (some (.int 0)) u) : V mX2_takes 0 [some (.ref 2), some (.int c), some (.ref (pr b)), none] [] w Q := by
  refine la_4_0 1 dX2_takes_0 rfl ?_
  refine vg_X2_9 rfl 4 dX2_takes_1 rfl ?_
  refine v_if_ne 27 7 dX2_takes_4 rfl rfl (fun h4 => ?_) (fun h4 => ?_)
  · exact absurd h3 h4
  · refine la_4_0 8 dX2_takes_7 rfl ?_
    refine li_4_1 9 dX2_takes_8 rfl ?_
    refine v_bipush (v := 65) 11 dX2_takes_9 rfl kb_65 ?_
    refine v_icmp_ne 18 14 dX2_takes_11 rfl rfl (fun h11 => ?_) (fun h11 => ?_)
    · refine v_iconst (v := 0) 19 dX2_takes_18 rfl ki_0 ?_
      refine vs_X2_9 rfl 22 dX2_takes_19 rfl (Or.inl rfl) ?_
      refine la_4_0 23 dX2_takes_22 rfl ?_
      refine vg_X2_9 rfl 26 dX2_takes_23 rfl ?_
      refine v_zret dX2_takes_26 rfl (by first | exact Or.inl rfl | exact Or.inr rfl) ?_
      exact hF (by rintro ⟨t, z⟩; exact h11 z.1) _ (FrR.oI (by decide) (by decide))
    · refine v_iconst (v := 1) 15 dX2_takes_14 rfl ki_1 ?_
      refine v_goto 19 dX2_takes_15 rfl ?_
      refine vs_X2_9 rfl 22 dX2_takes_19 rfl (Or.inr rfl) ?_
      refine la_4_0 23 dX2_takes_22 rfl ?_
      refine vg_X2_9 rfl 26 dX2_takes_23 rfl ?_
      refine v_zret dX2_takes_26 rfl (by first | exact Or.inl rfl | exact Or.inr rfl) ?_
      exact hT _ _ ⟨h11, rfl⟩ ⟨hD.oR (by decide), rfl, h40⟩ (FrR.oI (by decide) (by decide))
set_option maxHeartbeats 4000000 in
set_option maxRecDepth 100000 in
theorem c_takes1 {b : Nat} (hb : b < 2) {w : Wd} {P : PT} {c f g : Int32} (hD : isD w b P) (h3 : w.1 3 = 1) (h40 : w.1 4 = 0) {Q : Option Value → Wd → Prop} (hT : ∀ t u, stepR (1, 0, f, g, P) c t → rdR u b t → FrR b w u → Q (some (.int 1)) u) (hF : (¬ ∃ t, stepR (1, 0, f, g, P) c t) → ∀ u, FrR b w u → Q (some (.int 0)) u) : V mX2_takes 0 [some (.ref 2), some (.int c), some (.ref (pr b)), none] [] w Q := by
  refine la_4_0 1 dX2_takes_0 rfl ?_
  refine vg_X2_9 rfl 4 dX2_takes_1 rfl ?_
  refine v_if_ne 27 7 dX2_takes_4 rfl rfl (fun h4 => ?_) (fun h4 => ?_)
  · refine la_4_0 28 dX2_takes_27 rfl ?_
    refine vg_X2_15 rfl 31 dX2_takes_28 rfl ?_
    refine v_if_ne 41 34 dX2_takes_31 rfl rfl (fun h31 => ?_) (fun h31 => ?_)
    · exact absurd h40 h31
    · refine la_4_0 35 dX2_takes_34 rfl ?_
      refine li_4_1 36 dX2_takes_35 rfl ?_
      refine la_4_2 37 dX2_takes_36 rfl ?_
      refine v_cVI2 40 dX2_takes_37 rfl fvX2_opens fiX2_opens ml_X2_19 (seX2) rfl ⟨(Nat.le_of_ble_eq_true rfl), (Nat.le_of_ble_eq_true rfl)⟩ (Nat.le_of_ble_eq_true rfl) (Nat.le_of_ble_eq_true rfl) (c_X2_opens hb hD (fun q37 => ⟨_, rfl, ?_⟩) (fun q37 => ⟨_, rfl, ?_⟩)) rfl
      · refine v_zret dX2_takes_40 rfl (Or.inr rfl) ?_
        rcases q37 with ⟨z, z2⟩ | ⟨z, z2⟩ | ⟨z, z2⟩
        · subst z; exact hT _ _ ⟨Or.inl ⟨rfl, z2⟩, rfl⟩ ⟨(hD.oR (by decide)).oR (by decide), h3, rfl, rfl, z2⟩ ((FrR.oI (by decide) (by decide)).tr (FrR.oI (by decide) (by decide)))
        · subst z; exact hT _ _ ⟨Or.inr (Or.inl ⟨rfl, z2⟩), rfl⟩ ⟨(hD.oR (by decide)).oR (by decide), h3, rfl, rfl⟩ ((FrR.oI (by decide) (by decide)).tr (FrR.oI (by decide) (by decide)))
        · subst z; exact hT _ _ ⟨Or.inr (Or.inr ⟨rfl, z2⟩), rfl⟩ ⟨(hD.oR (by decide)).oR (by decide), h3, rfl, rfl, z2⟩ ((FrR.oI (by decide) (by decide)).tr (FrR.oI (by decide) (by decide)))
      · refine v_zret dX2_takes_40 rfl (Or.inl rfl) ?_
        exact hF (by rintro ⟨t, z⟩; exact q37 z.1) _ FrR.rf
  · exact absurd h4 (by rw [h3]; decide)
set_option maxHeartbeats 4000000 in
set_option maxRecDepth 100000 in
theorem c_takes20 {b : Nat} (hb : b < 2) {w : Wd} {P : PT} {c f g : Int32} (hD : isD w b P) (h3 : w.1 3 = 1) (h40 : w.1 4 = 83) (h50 : w.1 5 = 0) (hn : P.1.1 < 5) {Q : Option Value → Wd → Prop} (hT : ∀ t u, stepR (2, 0, f, g, P) c t → rdR u b t → FrR b w u → Q (some (.int 1)) u) (hF : (¬ ∃ t, stepR (2, 0, f, g, P) c t) → ∀ u, FrR b w u → Q (some (.int 0)) u) : V mX2_takes 0 [some (.ref 2), some (.int c), some (.ref (pr b)), none] [] w Q := by
  refine la_4_0 1 dX2_takes_0 rfl ?_
  refine vg_X2_9 rfl 4 dX2_takes_1 rfl ?_
  refine v_if_ne 27 7 dX2_takes_4 rfl rfl (fun h4 => ?_) (fun h4 => ?_)
  · refine la_4_0 28 dX2_takes_27 rfl ?_
    refine vg_X2_15 rfl 31 dX2_takes_28 rfl ?_
    refine v_if_ne 41 34 dX2_takes_31 rfl rfl (fun h31 => ?_) (fun h31 => ?_)
    · refine li_4_1 42 dX2_takes_41 rfl ?_
      refine v_bipush (v := 48) 44 dX2_takes_42 rfl kb_48 ?_
      refine v_isub 45 dX2_takes_44 rfl ?_
      refine si_4_3 rfl 46 dX2_takes_45 rfl rfl ?_
      refine li_4_3 47 dX2_takes_46 rfl ?_
      refine v_if_lt 56 50 dX2_takes_47 rfl rfl (fun h47 => ?_) (fun h47 => ?_)
      · refine v_iconst (v := 0) 57 dX2_takes_56 rfl ki_0 ?_
        refine v_zret dX2_takes_57 rfl (Or.inl rfl) ?_
        exact hF (by rintro ⟨t, z⟩; exact z.1.1 h47) _ FrR.rf
      · refine li_4_3 51 dX2_takes_50 rfl ?_
        refine v_bipush (v := 9) 53 dX2_takes_51 rfl kb_9 ?_
        refine v_icmp_le 58 56 dX2_takes_53 rfl rfl (fun h53 => ?_) (fun h53 => ?_)
        · refine la_4_0 59 dX2_takes_58 rfl ?_
          refine vg_X2_15 rfl 62 dX2_takes_59 rfl ?_
          rw [h40]
          refine v_look (off := 26) 88 dX2_takes_62 (by decide) (by decide) rfl ?_
          refine la_4_0 89 dX2_takes_88 rfl ?_
          refine li_4_3 90 dX2_takes_89 rfl ?_
          refine la_4_2 91 dX2_takes_90 rfl ?_
          refine v_cVI2 94 dX2_takes_91 rfl fvX2_takesOfStamp fiX2_takesOfStamp ml_X2_23 (seX2) rfl ⟨(Nat.le_of_ble_eq_true rfl), (Nat.le_of_ble_eq_true rfl)⟩ (Nat.le_of_ble_eq_true rfl) (Nat.le_of_ble_eq_true rfl) (c_tS0 hb hD h50 ⟨_, rfl, ?_⟩) rfl
          refine v_zret dX2_takes_94 rfl (Or.inr rfl) ?_
          exact hT _ _ ⟨⟨h47, h53⟩, rfl⟩ ⟨(hD.oR (by decide)).oR (by decide), h3, h40, by show w.1 5 + 1 = 1; rw [h50]; rfl, rfl, hn⟩ ((FrR.oI (by decide) (by decide)).tr (FrR.oI (by decide) (by decide)))
        · refine v_iconst (v := 0) 57 dX2_takes_56 rfl ki_0 ?_
          refine v_zret dX2_takes_57 rfl (Or.inl rfl) ?_
          exact hF (by rintro ⟨t, z⟩; exact h53 z.1.2) _ FrR.rf
    · exact absurd h31 (by rw [h40]; decide)
  · exact absurd h4 (by rw [h3]; decide)
set_option maxHeartbeats 4000000 in
set_option maxRecDepth 100000 in
theorem c_takes21 {b : Nat} (hb : b < 2) {w : Wd} {P : PT} {c f g : Int32} (hD : isD w b P) (h3 : w.1 3 = 1) (h40 : w.1 4 = 83) (h50 : w.1 5 = 1) (h6 : w.1 6 = f) (hn : P.1.1 < 5) {Q : Option Value → Wd → Prop} (hT : ∀ t u, stepR (2, 1, f, g, P) c t → rdR u b t → FrR b w u → Q (some (.int 1)) u) (hF : (¬ ∃ t, stepR (2, 1, f, g, P) c t) → ∀ u, FrR b w u → Q (some (.int 0)) u) : V mX2_takes 0 [some (.ref 2), some (.int c), some (.ref (pr b)), none] [] w Q := by
  refine la_4_0 1 dX2_takes_0 rfl ?_
  refine vg_X2_9 rfl 4 dX2_takes_1 rfl ?_
  refine v_if_ne 27 7 dX2_takes_4 rfl rfl (fun h4 => ?_) (fun h4 => ?_)
  · refine la_4_0 28 dX2_takes_27 rfl ?_
    refine vg_X2_15 rfl 31 dX2_takes_28 rfl ?_
    refine v_if_ne 41 34 dX2_takes_31 rfl rfl (fun h31 => ?_) (fun h31 => ?_)
    · refine li_4_1 42 dX2_takes_41 rfl ?_
      refine v_bipush (v := 48) 44 dX2_takes_42 rfl kb_48 ?_
      refine v_isub 45 dX2_takes_44 rfl ?_
      refine si_4_3 rfl 46 dX2_takes_45 rfl rfl ?_
      refine li_4_3 47 dX2_takes_46 rfl ?_
      refine v_if_lt 56 50 dX2_takes_47 rfl rfl (fun h47 => ?_) (fun h47 => ?_)
      · refine v_iconst (v := 0) 57 dX2_takes_56 rfl ki_0 ?_
        refine v_zret dX2_takes_57 rfl (Or.inl rfl) ?_
        exact hF (by rintro ⟨t, z⟩; exact z.1.1 h47) _ FrR.rf
      · refine li_4_3 51 dX2_takes_50 rfl ?_
        refine v_bipush (v := 9) 53 dX2_takes_51 rfl kb_9 ?_
        refine v_icmp_le 58 56 dX2_takes_53 rfl rfl (fun h53 => ?_) (fun h53 => ?_)
        · refine la_4_0 59 dX2_takes_58 rfl ?_
          refine vg_X2_15 rfl 62 dX2_takes_59 rfl ?_
          rw [h40]
          refine v_look (off := 26) 88 dX2_takes_62 (by decide) (by decide) rfl ?_
          refine la_4_0 89 dX2_takes_88 rfl ?_
          refine li_4_3 90 dX2_takes_89 rfl ?_
          refine la_4_2 91 dX2_takes_90 rfl ?_
          refine v_cVI2 94 dX2_takes_91 rfl fvX2_takesOfStamp fiX2_takesOfStamp ml_X2_23 (seX2) rfl ⟨(Nat.le_of_ble_eq_true rfl), (Nat.le_of_ble_eq_true rfl)⟩ (Nat.le_of_ble_eq_true rfl) (Nat.le_of_ble_eq_true rfl) (c_tS1 hb hD h50 ⟨_, rfl, ?_⟩) rfl
          refine v_zret dX2_takes_94 rfl (Or.inr rfl) ?_
          exact hT _ _ ⟨⟨h47, h53⟩, rfl⟩ ⟨(hD.oR (by decide)).oR (by decide), h3, h40, by show w.1 5 + 1 = 2; rw [h50]; decide, h6, rfl, hn⟩ ((FrR.oI (by decide) (by decide)).tr (FrR.oI (by decide) (by decide)))
        · refine v_iconst (v := 0) 57 dX2_takes_56 rfl ki_0 ?_
          refine v_zret dX2_takes_57 rfl (Or.inl rfl) ?_
          exact hF (by rintro ⟨t, z⟩; exact h53 z.1.2) _ FrR.rf
    · exact absurd h31 (by rw [h40]; decide)
  · exact absurd h4 (by rw [h3]; decide)
set_option maxHeartbeats 4000000 in
set_option maxRecDepth 100000 in
theorem c_takes22 {b : Nat} (hb : b < 2) {w : Wd} {P : PT} {c f g : Int32} (hD : isD w b P) (h3 : w.1 3 = 1) (h40 : w.1 4 = 83) (h50 : w.1 5 = 2) (h6 : w.1 6 = f) (h7 : w.1 7 = g) (hn : P.1.1 < 5) {Q : Option Value → Wd → Prop} (hT : ∀ t u, stepR (2, 2, f, g, P) c t → rdR u b t → FrR b w u → Q (some (.int 1)) u) (hF : (¬ ∃ t, stepR (2, 2, f, g, P) c t) → ∀ u, FrR b w u → Q (some (.int 0)) u) : V mX2_takes 0 [some (.ref 2), some (.int c), some (.ref (pr b)), none] [] w Q := by
  refine la_4_0 1 dX2_takes_0 rfl ?_
  refine vg_X2_9 rfl 4 dX2_takes_1 rfl ?_
  refine v_if_ne 27 7 dX2_takes_4 rfl rfl (fun h4 => ?_) (fun h4 => ?_)
  · refine la_4_0 28 dX2_takes_27 rfl ?_
    refine vg_X2_15 rfl 31 dX2_takes_28 rfl ?_
    refine v_if_ne 41 34 dX2_takes_31 rfl rfl (fun h31 => ?_) (fun h31 => ?_)
    · refine li_4_1 42 dX2_takes_41 rfl ?_
      refine v_bipush (v := 48) 44 dX2_takes_42 rfl kb_48 ?_
      refine v_isub 45 dX2_takes_44 rfl ?_
      refine si_4_3 rfl 46 dX2_takes_45 rfl rfl ?_
      refine li_4_3 47 dX2_takes_46 rfl ?_
      refine v_if_lt 56 50 dX2_takes_47 rfl rfl (fun h47 => ?_) (fun h47 => ?_)
      · refine v_iconst (v := 0) 57 dX2_takes_56 rfl ki_0 ?_
        refine v_zret dX2_takes_57 rfl (Or.inl rfl) ?_
        exact hF (by rintro ⟨t, z⟩; exact z.1.1 h47) _ FrR.rf
      · refine li_4_3 51 dX2_takes_50 rfl ?_
        refine v_bipush (v := 9) 53 dX2_takes_51 rfl kb_9 ?_
        refine v_icmp_le 58 56 dX2_takes_53 rfl rfl (fun h53 => ?_) (fun h53 => ?_)
        · refine la_4_0 59 dX2_takes_58 rfl ?_
          refine vg_X2_15 rfl 62 dX2_takes_59 rfl ?_
          rw [h40]
          refine v_look (off := 26) 88 dX2_takes_62 (by decide) (by decide) rfl ?_
          refine la_4_0 89 dX2_takes_88 rfl ?_
          refine li_4_3 90 dX2_takes_89 rfl ?_
          refine la_4_2 91 dX2_takes_90 rfl ?_
          refine v_cVI2 94 dX2_takes_91 rfl fvX2_takesOfStamp fiX2_takesOfStamp ml_X2_23 (seX2) rfl ⟨(Nat.le_of_ble_eq_true rfl), (Nat.le_of_ble_eq_true rfl)⟩ (Nat.le_of_ble_eq_true rfl) (Nat.le_of_ble_eq_true rfl) (c_tS2 hb hD hn h50 (fun q91 u1 hD1 hF1 => ⟨_, rfl, ?_⟩) (fun q91 => ⟨_, rfl, ?_⟩)) rfl
          · refine v_zret dX2_takes_94 rfl (Or.inr rfl) ?_
            subst h6; subst h7; exact hT _ _ ⟨⟨h47, h53⟩, q91, rfl⟩ ⟨hD1.oR (by decide), (hF1.rd (by decide)).trans h3, rfl⟩ ((hF1.R hb).tr (FrR.oI (by decide) (by decide)))
          · refine v_zret dX2_takes_94 rfl (Or.inl rfl) ?_
            exact hF (by rintro ⟨t, z⟩; exact q91 z.2.1) _ FrR.rf
        · refine v_iconst (v := 0) 57 dX2_takes_56 rfl ki_0 ?_
          refine v_zret dX2_takes_57 rfl (Or.inl rfl) ?_
          exact hF (by rintro ⟨t, z⟩; exact h53 z.1.2) _ FrR.rf
    · exact absurd h31 (by rw [h40]; decide)
  · exact absurd h4 (by rw [h3]; decide)
set_option maxHeartbeats 4000000 in
set_option maxRecDepth 100000 in
theorem c_takes30 {b : Nat} (hb : b < 2) {w : Wd} {P : PT} {c f g : Int32} (hD : isD w b P) (h3 : w.1 3 = 1) (h40 : w.1 4 = 74) (h50 : w.1 5 = 0)  {Q : Option Value → Wd → Prop} (hT : ∀ t u, stepR (3, 0, f, g, P) c t → rdR u b t → FrR b w u → Q (some (.int 1)) u) (hF : (¬ ∃ t, stepR (3, 0, f, g, P) c t) → ∀ u, FrR b w u → Q (some (.int 0)) u) : V mX2_takes 0 [some (.ref 2), some (.int c), some (.ref (pr b)), none] [] w Q := by
  refine la_4_0 1 dX2_takes_0 rfl ?_
  refine vg_X2_9 rfl 4 dX2_takes_1 rfl ?_
  refine v_if_ne 27 7 dX2_takes_4 rfl rfl (fun h4 => ?_) (fun h4 => ?_)
  · refine la_4_0 28 dX2_takes_27 rfl ?_
    refine vg_X2_15 rfl 31 dX2_takes_28 rfl ?_
    refine v_if_ne 41 34 dX2_takes_31 rfl rfl (fun h31 => ?_) (fun h31 => ?_)
    · refine li_4_1 42 dX2_takes_41 rfl ?_
      refine v_bipush (v := 48) 44 dX2_takes_42 rfl kb_48 ?_
      refine v_isub 45 dX2_takes_44 rfl ?_
      refine si_4_3 rfl 46 dX2_takes_45 rfl rfl ?_
      refine li_4_3 47 dX2_takes_46 rfl ?_
      refine v_if_lt 56 50 dX2_takes_47 rfl rfl (fun h47 => ?_) (fun h47 => ?_)
      · refine v_iconst (v := 0) 57 dX2_takes_56 rfl ki_0 ?_
        refine v_zret dX2_takes_57 rfl (Or.inl rfl) ?_
        exact hF (by rintro ⟨t, z⟩; exact z.1.1 h47) _ FrR.rf
      · refine li_4_3 51 dX2_takes_50 rfl ?_
        refine v_bipush (v := 9) 53 dX2_takes_51 rfl kb_9 ?_
        refine v_icmp_le 58 56 dX2_takes_53 rfl rfl (fun h53 => ?_) (fun h53 => ?_)
        · refine la_4_0 59 dX2_takes_58 rfl ?_
          refine vg_X2_15 rfl 62 dX2_takes_59 rfl ?_
          rw [h40]
          refine v_look (off := 33) 95 dX2_takes_62 (by decide) (by decide) rfl ?_
          refine la_4_0 96 dX2_takes_95 rfl ?_
          refine li_4_3 97 dX2_takes_96 rfl ?_
          refine la_4_2 98 dX2_takes_97 rfl ?_
          refine v_cVI2 101 dX2_takes_98 rfl fvX2_takesOfJoin fiX2_takesOfJoin ml_X2_26 (seX2) rfl ⟨(Nat.le_of_ble_eq_true rfl), (Nat.le_of_ble_eq_true rfl)⟩ (Nat.le_of_ble_eq_true rfl) (Nat.le_of_ble_eq_true rfl) (c_tJ0 hb hD h50 (fun q98 => ⟨_, rfl, ?_⟩) (fun q98 => ⟨_, rfl, ?_⟩)) rfl
          · refine v_zret dX2_takes_101 rfl (Or.inr rfl) ?_
            exact hT _ _ ⟨⟨h47, h53⟩, q98, rfl⟩ ⟨(hD.oR (by decide)).oR (by decide), h3, h40, by show w.1 5 + 1 = 1; rw [h50]; rfl, rfl⟩ ((FrR.oI (by decide) (by decide)).tr (FrR.oI (by decide) (by decide)))
          · refine v_zret dX2_takes_101 rfl (Or.inl rfl) ?_
            exact hF (by rintro ⟨t, z⟩; exact q98 z.2.1) _ ((FrR.oI (by decide) (by decide)).tr (FrR.oI (by decide) (by decide)))
        · refine v_iconst (v := 0) 57 dX2_takes_56 rfl ki_0 ?_
          refine v_zret dX2_takes_57 rfl (Or.inl rfl) ?_
          exact hF (by rintro ⟨t, z⟩; exact h53 z.1.2) _ FrR.rf
    · exact absurd h31 (by rw [h40]; decide)
  · exact absurd h4 (by rw [h3]; decide)
set_option maxHeartbeats 4000000 in
set_option maxRecDepth 100000 in
theorem c_takes31 {b : Nat} (hb : b < 2) {w : Wd} {P : PT} {c f g : Int32} (hD : isD w b P) (h3 : w.1 3 = 1) (h40 : w.1 4 = 74) (h50 : w.1 5 = 1) (h6 : w.1 6 = f) {Q : Option Value → Wd → Prop} (hT : ∀ t u, stepR (3, 1, f, g, P) c t → rdR u b t → FrR b w u → Q (some (.int 1)) u) (hF : (¬ ∃ t, stepR (3, 1, f, g, P) c t) → ∀ u, FrR b w u → Q (some (.int 0)) u) : V mX2_takes 0 [some (.ref 2), some (.int c), some (.ref (pr b)), none] [] w Q := by
  refine la_4_0 1 dX2_takes_0 rfl ?_
  refine vg_X2_9 rfl 4 dX2_takes_1 rfl ?_
  refine v_if_ne 27 7 dX2_takes_4 rfl rfl (fun h4 => ?_) (fun h4 => ?_)
  · refine la_4_0 28 dX2_takes_27 rfl ?_
    refine vg_X2_15 rfl 31 dX2_takes_28 rfl ?_
    refine v_if_ne 41 34 dX2_takes_31 rfl rfl (fun h31 => ?_) (fun h31 => ?_)
    · refine li_4_1 42 dX2_takes_41 rfl ?_
      refine v_bipush (v := 48) 44 dX2_takes_42 rfl kb_48 ?_
      refine v_isub 45 dX2_takes_44 rfl ?_
      refine si_4_3 rfl 46 dX2_takes_45 rfl rfl ?_
      refine li_4_3 47 dX2_takes_46 rfl ?_
      refine v_if_lt 56 50 dX2_takes_47 rfl rfl (fun h47 => ?_) (fun h47 => ?_)
      · refine v_iconst (v := 0) 57 dX2_takes_56 rfl ki_0 ?_
        refine v_zret dX2_takes_57 rfl (Or.inl rfl) ?_
        exact hF (by rintro ⟨t, z⟩; exact z.1.1 h47) _ FrR.rf
      · refine li_4_3 51 dX2_takes_50 rfl ?_
        refine v_bipush (v := 9) 53 dX2_takes_51 rfl kb_9 ?_
        refine v_icmp_le 58 56 dX2_takes_53 rfl rfl (fun h53 => ?_) (fun h53 => ?_)
        · refine la_4_0 59 dX2_takes_58 rfl ?_
          refine vg_X2_15 rfl 62 dX2_takes_59 rfl ?_
          rw [h40]
          refine v_look (off := 33) 95 dX2_takes_62 (by decide) (by decide) rfl ?_
          refine la_4_0 96 dX2_takes_95 rfl ?_
          refine li_4_3 97 dX2_takes_96 rfl ?_
          refine la_4_2 98 dX2_takes_97 rfl ?_
          refine v_cVI2 101 dX2_takes_98 rfl fvX2_takesOfJoin fiX2_takesOfJoin ml_X2_26 (seX2) rfl ⟨(Nat.le_of_ble_eq_true rfl), (Nat.le_of_ble_eq_true rfl)⟩ (Nat.le_of_ble_eq_true rfl) (Nat.le_of_ble_eq_true rfl) (c_tJ1 hb hD h50 (fun k m hk hm e1 e2 q98 u1 hD1 hF1 => ⟨_, rfl, ?_⟩) (fun q98 => ⟨_, rfl, ?_⟩)) rfl
          · refine v_zret dX2_takes_101 rfl (Or.inr rfl) ?_
            subst h6; exact hT _ _ ⟨⟨h47, h53⟩, k, m, hk, hm, e1, e2, q98, rfl⟩ ⟨hD1.oR (by decide), (hF1.rd (by decide)).trans h3, rfl⟩ ((hF1.R hb).tr (FrR.oI (by decide) (by decide)))
          · refine v_zret dX2_takes_101 rfl (Or.inl rfl) ?_
            subst h6; exact hF (by rintro ⟨t, z, k, m, _, _, _, _, z2, _⟩; exact q98 z2) _ FrR.rf
        · refine v_iconst (v := 0) 57 dX2_takes_56 rfl ki_0 ?_
          refine v_zret dX2_takes_57 rfl (Or.inl rfl) ?_
          exact hF (by rintro ⟨t, z⟩; exact h53 z.1.2) _ FrR.rf
    · exact absurd h31 (by rw [h40]; decide)
  · exact absurd h4 (by rw [h3]; decide)
set_option maxHeartbeats 4000000 in
set_option maxRecDepth 100000 in
theorem c_takes40 {b : Nat} (hb : b < 2) {w : Wd} {P : PT} {c f g : Int32} (hD : isD w b P) (h3 : w.1 3 = 1) (h40 : w.1 4 = 76) (h50 : w.1 5 = 0) (hn : P.1.2.1 < 4) {Q : Option Value → Wd → Prop} (hT : ∀ t u, stepR (4, 0, f, g, P) c t → rdR u b t → FrR b w u → Q (some (.int 1)) u) (hF : (¬ ∃ t, stepR (4, 0, f, g, P) c t) → ∀ u, FrR b w u → Q (some (.int 0)) u) : V mX2_takes 0 [some (.ref 2), some (.int c), some (.ref (pr b)), none] [] w Q := by
  refine la_4_0 1 dX2_takes_0 rfl ?_
  refine vg_X2_9 rfl 4 dX2_takes_1 rfl ?_
  refine v_if_ne 27 7 dX2_takes_4 rfl rfl (fun h4 => ?_) (fun h4 => ?_)
  · refine la_4_0 28 dX2_takes_27 rfl ?_
    refine vg_X2_15 rfl 31 dX2_takes_28 rfl ?_
    refine v_if_ne 41 34 dX2_takes_31 rfl rfl (fun h31 => ?_) (fun h31 => ?_)
    · refine li_4_1 42 dX2_takes_41 rfl ?_
      refine v_bipush (v := 48) 44 dX2_takes_42 rfl kb_48 ?_
      refine v_isub 45 dX2_takes_44 rfl ?_
      refine si_4_3 rfl 46 dX2_takes_45 rfl rfl ?_
      refine li_4_3 47 dX2_takes_46 rfl ?_
      refine v_if_lt 56 50 dX2_takes_47 rfl rfl (fun h47 => ?_) (fun h47 => ?_)
      · refine v_iconst (v := 0) 57 dX2_takes_56 rfl ki_0 ?_
        refine v_zret dX2_takes_57 rfl (Or.inl rfl) ?_
        exact hF (by rintro ⟨t, z⟩; exact z.1.1 h47) _ FrR.rf
      · refine li_4_3 51 dX2_takes_50 rfl ?_
        refine v_bipush (v := 9) 53 dX2_takes_51 rfl kb_9 ?_
        refine v_icmp_le 58 56 dX2_takes_53 rfl rfl (fun h53 => ?_) (fun h53 => ?_)
        · refine la_4_0 59 dX2_takes_58 rfl ?_
          refine vg_X2_15 rfl 62 dX2_takes_59 rfl ?_
          rw [h40]
          refine v_look (off := 40) 102 dX2_takes_62 (by decide) (by decide) rfl ?_
          refine la_4_0 103 dX2_takes_102 rfl ?_
          refine li_4_3 104 dX2_takes_103 rfl ?_
          refine la_4_2 105 dX2_takes_104 rfl ?_
          refine v_cVI2 108 dX2_takes_105 rfl fvX2_takesOfLetter fiX2_takesOfLetter ml_X2_29 (seX2) rfl ⟨(Nat.le_of_ble_eq_true rfl), (Nat.le_of_ble_eq_true rfl)⟩ (Nat.le_of_ble_eq_true rfl) (Nat.le_of_ble_eq_true rfl) (c_tL0 hb hD h50 (fun q105 => ⟨_, rfl, ?_⟩) (fun q105 => ⟨_, rfl, ?_⟩)) rfl
          · refine v_zret dX2_takes_108 rfl (Or.inr rfl) ?_
            exact hT _ _ ⟨⟨h47, h53⟩, q105, rfl⟩ ⟨(hD.oR (by decide)).oR (by decide), h3, h40, by show w.1 5 + 1 = 1; rw [h50]; rfl, rfl, hn⟩ ((FrR.oI (by decide) (by decide)).tr (FrR.oI (by decide) (by decide)))
          · refine v_zret dX2_takes_108 rfl (Or.inl rfl) ?_
            exact hF (by rintro ⟨t, z⟩; exact z.2.1 q105) _ FrR.rf
        · refine v_iconst (v := 0) 57 dX2_takes_56 rfl ki_0 ?_
          refine v_zret dX2_takes_57 rfl (Or.inl rfl) ?_
          exact hF (by rintro ⟨t, z⟩; exact h53 z.1.2) _ FrR.rf
    · exact absurd h31 (by rw [h40]; decide)
  · exact absurd h4 (by rw [h3]; decide)
set_option maxHeartbeats 4000000 in
set_option maxRecDepth 100000 in
theorem c_takes41 {b : Nat} (hb : b < 2) {w : Wd} {P : PT} {c f g : Int32} (hD : isD w b P) (h3 : w.1 3 = 1) (h40 : w.1 4 = 76) (h50 : w.1 5 = 1) (h6 : w.1 6 = f) (hn : P.1.2.1 < 4) {Q : Option Value → Wd → Prop} (hT : ∀ t u, stepR (4, 1, f, g, P) c t → rdR u b t → FrR b w u → Q (some (.int 1)) u) (hF : (¬ ∃ t, stepR (4, 1, f, g, P) c t) → ∀ u, FrR b w u → Q (some (.int 0)) u) : V mX2_takes 0 [some (.ref 2), some (.int c), some (.ref (pr b)), none] [] w Q := by
  refine la_4_0 1 dX2_takes_0 rfl ?_
  refine vg_X2_9 rfl 4 dX2_takes_1 rfl ?_
  refine v_if_ne 27 7 dX2_takes_4 rfl rfl (fun h4 => ?_) (fun h4 => ?_)
  · refine la_4_0 28 dX2_takes_27 rfl ?_
    refine vg_X2_15 rfl 31 dX2_takes_28 rfl ?_
    refine v_if_ne 41 34 dX2_takes_31 rfl rfl (fun h31 => ?_) (fun h31 => ?_)
    · refine li_4_1 42 dX2_takes_41 rfl ?_
      refine v_bipush (v := 48) 44 dX2_takes_42 rfl kb_48 ?_
      refine v_isub 45 dX2_takes_44 rfl ?_
      refine si_4_3 rfl 46 dX2_takes_45 rfl rfl ?_
      refine li_4_3 47 dX2_takes_46 rfl ?_
      refine v_if_lt 56 50 dX2_takes_47 rfl rfl (fun h47 => ?_) (fun h47 => ?_)
      · refine v_iconst (v := 0) 57 dX2_takes_56 rfl ki_0 ?_
        refine v_zret dX2_takes_57 rfl (Or.inl rfl) ?_
        exact hF (by rintro ⟨t, z⟩; exact z.1.1 h47) _ FrR.rf
      · refine li_4_3 51 dX2_takes_50 rfl ?_
        refine v_bipush (v := 9) 53 dX2_takes_51 rfl kb_9 ?_
        refine v_icmp_le 58 56 dX2_takes_53 rfl rfl (fun h53 => ?_) (fun h53 => ?_)
        · refine la_4_0 59 dX2_takes_58 rfl ?_
          refine vg_X2_15 rfl 62 dX2_takes_59 rfl ?_
          rw [h40]
          refine v_look (off := 40) 102 dX2_takes_62 (by decide) (by decide) rfl ?_
          refine la_4_0 103 dX2_takes_102 rfl ?_
          refine li_4_3 104 dX2_takes_103 rfl ?_
          refine la_4_2 105 dX2_takes_104 rfl ?_
          refine v_cVI2 108 dX2_takes_105 rfl fvX2_takesOfLetter fiX2_takesOfLetter ml_X2_29 (seX2) rfl ⟨(Nat.le_of_ble_eq_true rfl), (Nat.le_of_ble_eq_true rfl)⟩ (Nat.le_of_ble_eq_true rfl) (Nat.le_of_ble_eq_true rfl) (c_tL1 hb hD hn h50 (fun q105 u1 hD1 hF1 => ⟨_, rfl, ?_⟩) (fun q105 => ⟨_, rfl, ?_⟩)) rfl
          · refine v_zret dX2_takes_108 rfl (Or.inr rfl) ?_
            subst h6; exact hT _ _ ⟨⟨h47, h53⟩, q105, rfl⟩ ⟨hD1.oR (by decide), (hF1.rd (by decide)).trans h3, rfl⟩ ((hF1.R hb).tr (FrR.oI (by decide) (by decide)))
          · refine v_zret dX2_takes_108 rfl (Or.inl rfl) ?_
            exact hF (by rintro ⟨t, z⟩; exact z.2.1 q105) _ FrR.rf
        · refine v_iconst (v := 0) 57 dX2_takes_56 rfl ki_0 ?_
          refine v_zret dX2_takes_57 rfl (Or.inl rfl) ?_
          exact hF (by rintro ⟨t, z⟩; exact h53 z.1.2) _ FrR.rf
    · exact absurd h31 (by rw [h40]; decide)
  · exact absurd h4 (by rw [h3]; decide)
set_option maxHeartbeats 4000000 in
set_option maxRecDepth 100000 in
theorem c_X2_takes {b : Nat} (hb : b < 2) {w : Wd} {s : RT} (hR : rdR w b s) {c : Int32} {Q : Option Value → Wd → Prop} (hT : ∀ t u, stepR s c t → rdR u b t → FrR b w u → Q (some (.int 1)) u) (hF : (¬ ∃ t, stepR s c t) → ∀ u, FrR b w u → Q (some (.int 0)) u) : V mX2_takes 0 [some (.ref 2), some (.int c), some (.ref (pr b)), none] [] w Q := by
  match s, hR, hT, hF with
  | (0, k, f, g, P), ⟨hD, h3, h4⟩, hT, hF => exact c_takes0 (f := f) (g := g) hb hD h3 h4 hT hF
  | (1, k, f, g, P), ⟨hD, h3, h4⟩, hT, hF => exact c_takes1 (f := f) (g := g) hb hD h3 h4 hT hF
  | (2, 0, f, g, P), ⟨hD, h3, h4, h5, hn⟩, hT, hF => exact c_takes20 (f := f) (g := g) hb hD h3 h4 h5 hn hT hF
  | (2, 1, f, g, P), ⟨hD, h3, h4, h5, h6, hn⟩, hT, hF => exact c_takes21 (g := g) hb hD h3 h4 h5 h6 hn hT hF
  | (2, k + 2, f, g, P), ⟨hD, h3, h4, h5, h6, h7, hn⟩, hT, hF => exact c_takes22 hb hD h3 h4 h5 h6 h7 hn hT hF
  | (3, 0, f, g, P), ⟨hD, h3, h4, h5⟩, hT, hF => exact c_takes30 (f := f) (g := g) hb hD h3 h4 h5 hT hF
  | (3, k + 1, f, g, P), ⟨hD, h3, h4, h5, h6⟩, hT, hF => exact c_takes31 (g := g) hb hD h3 h4 h5 h6 hT hF
  | (m + 4, 0, f, g, P), ⟨hD, h3, h4, h5, hn⟩, hT, hF => exact c_takes40 (f := f) (g := g) hb hD h3 h4 h5 hn hT hF
  | (m + 4, k + 1, f, g, P), ⟨hD, h3, h4, h5, h6, hn⟩, hT, hF => exact c_takes41 (g := g) hb hD h3 h4 h5 h6 hn hT hF
/-- the reader's state behind i signs -/
def reachR (x : Nat → Int32) : Nat → RT → Prop
  | 0, s => s = (0, 0, 0, 0, P0)
  | i + 1, s => ∃ t, reachR x i t ∧ stepR t (x i) s
/-- a text of n signs: its first fault, or -9 and the draft -/
def textR (x : Nat → Int32) (n : Nat) (r : Int32) (s : RT) : Prop := (∃ i, i < n ∧ reachR x i s ∧ (¬ ∃ t, stepR s (x i) t) ∧ r = nI i) ∨ (reachR x n s ∧ ¬ s.1 = 1 ∧ r = nI n) ∨ (reachR x n s ∧ s.1 = 1 ∧ r = -9)
theorem rdR_end {w : Wd} {b : Nat} {s : RT} (h : rdR w b s) : (s.1 = 1 → ¬ w.1 3 = 0 ∧ w.1 4 = 0) ∧ (¬ s.1 = 1 → w.1 3 = 0 ∨ ¬ w.1 4 = 0) ∧ isD w b s.2.2.2.2 := by
  match s, h with
  | (0, k, f, g, P), ⟨hD, h3, h4⟩ => exact ⟨fun q => by simp at q, fun _ => Or.inl h3, hD⟩
  | (1, k, f, g, P), ⟨hD, h3, h4⟩ => exact ⟨fun _ => ⟨by rw [h3]; decide, h4⟩, fun q => absurd rfl q, hD⟩
  | (2, 0, f, g, P), ⟨hD, h3, h4, _⟩ => exact ⟨fun q => by simp at q, fun _ => Or.inr (by rw [h4]; decide), hD⟩
  | (2, 1, f, g, P), ⟨hD, h3, h4, _⟩ => exact ⟨fun q => by simp at q, fun _ => Or.inr (by rw [h4]; decide), hD⟩
  | (2, k + 2, f, g, P), ⟨hD, h3, h4, _⟩ => exact ⟨fun q => by simp at q, fun _ => Or.inr (by rw [h4]; decide), hD⟩
  | (3, 0, f, g, P), ⟨hD, h3, h4, _⟩ => exact ⟨fun q => by simp at q, fun _ => Or.inr (by rw [h4]; decide), hD⟩
  | (3, k + 1, f, g, P), ⟨hD, h3, h4, _⟩ => exact ⟨fun q => by simp at q, fun _ => Or.inr (by rw [h4]; decide), hD⟩
  | (m + 4, 0, f, g, P), ⟨hD, h3, h4, _⟩ => exact ⟨fun q => by simp at q, fun _ => Or.inr (by rw [h4]; decide), hD⟩
  | (m + 4, k + 1, f, g, P), ⟨hD, h3, h4, _⟩ => exact ⟨fun q => by simp at q, fun _ => Or.inr (by rw [h4]; decide), hD⟩

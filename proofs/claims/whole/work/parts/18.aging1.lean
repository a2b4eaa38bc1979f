theorem nm9 {i : Nat} (h : i < 2 ^ 31) : ¬ nI i = -9 := by
  intro q
  have h1 := nI_toInt h
  rw [q] at h1
  have h2 : ((-9 : Int32)).toInt = -9 := by decide
  omega
theorem FrR.tx {b : Nat} {w u : Wd} (hb : b < 2) (h : FrR b w u) : u.1 0 = w.1 0 ∧ u.2.2 25 = w.2.2 25 := ⟨h.1 0 (by omega), h.2.2 25 (by omega)⟩
set_option maxHeartbeats 4000000 in
set_option maxRecDepth 100000 in
theorem c_X3_readInto {b : Nat} (hb : b < 2) {w : Wd} {n : Nat} (hn : w.1 0 = nI n) (h48 : n ≤ 48) {Q : Option Value → Wd → Prop} (hQ : ∀ r s u, textR (w.2.2 25) n r s → (r = -9 → isD u b s.2.2.2.2) → FrR b w u → Q (some (.int r)) u) : V mX3_readInto 0 [some (.ref 0), some (.ref (pr b)), none] [] w Q := by
  have key : ∀ i, i ≤ n → ∀ u s, reachR (w.2.2 25) i s → rdR u b s → FrR b w u → V mX3_readInto 13 [some (.ref 0), some (.ref (pr b)), some (.int (nI i))] [] u Q := by
    refine up (P := fun i => ∀ u s, reachR (w.2.2 25) i s → rdR u b s → FrR b w u → V mX3_readInto 13 [some (.ref 0), some (.ref (pr b)), some (.int (nI i))] [] u Q) (fun i hi ih => ?_)
    intro u s hS hR hF
    have e0 := (hF.tx hb).1.trans hn
    have e25 := (hF.tx hb).2
    refine li_3_2 14 dX3_readInto_13 rfl ?_
    refine la_3_0 15 dX3_readInto_14 rfl ?_
    refine vg_X3_58 rfl 18 dX3_readInto_15 rfl ?_
    rw [e0]
    refine v_icmp_ge 46 21 dX3_readInto_18 rfl rfl (fun h18 => ?_) (fun h18 => ?_)
    · obtain rfl := ge_eq h18 hi (by omega)
      obtain ⟨d1, d2, d3⟩ := rdR_end hR
      refine la_3_0 47 dX3_readInto_46 rfl ?_
      refine vg_X3_16 rfl 50 dX3_readInto_47 rfl ?_
      refine v_cVI0 53 dX3_readInto_50 rfl fvX2_mayEnd fiX2_mayEnd ml_X3_253 (seX2) rfl ⟨(Nat.le_of_ble_eq_true rfl), (Nat.le_of_ble_eq_true rfl)⟩ (Nat.le_of_ble_eq_true rfl) (Nat.le_of_ble_eq_true rfl) (c_X2_mayEnd (fun g1 g2 => ⟨_, rfl, ?_⟩) (fun g1 => ⟨_, rfl, ?_⟩)) rfl
      · refine v_if_eq 61 56 dX3_readInto_53 rfl rfl (fun h => absurd h (by decide)) (fun _ => ?_)
        refine v_bipush (v := (-9)) 58 dX3_readInto_56 rfl kb_m9 ?_
        refine v_goto 65 dX3_readInto_58 rfl ?_
        refine v_iret dX3_readInto_65 rfl ?_
        exact hQ _ s _ (Or.inr (Or.inr ⟨hS, Classical.byContradiction (fun q => (d2 q).elim (fun z => g1 z) (fun z => z g2)), rfl⟩)) (fun _ => d3) hF
      · refine v_if_eq 61 56 dX3_readInto_53 rfl rfl (fun _ => ?_) (fun h => absurd rfl h)
        refine la_3_0 62 dX3_readInto_61 rfl ?_
        refine vg_X3_58 rfl 65 dX3_readInto_62 rfl ?_
        refine v_iret dX3_readInto_65 rfl ?_
        rw [e0]
        exact hQ _ s _ (Or.inr (Or.inl ⟨hS, fun q => g1.elim (fun z => (d1 q).1 z) (fun z => z (d1 q).2), rfl⟩)) (fun q => absurd q (nm9 (by omega))) hF
    · have hlt := ge_lt h18 (by omega) (by omega)
      refine la_3_0 22 dX3_readInto_21 rfl ?_
      refine vg_X3_16 rfl 25 dX3_readInto_22 rfl ?_
      refine la_3_0 26 dX3_readInto_25 rfl ?_
      refine vg_X3_9 rfl 29 dX3_readInto_26 rfl ?_
      refine li_3_2 30 dX3_readInto_29 rfl ?_
      refine vl_X3_text _ 31 dX3_readInto_30 rfl rfl (by omega) ?_
      refine la_3_1 32 dX3_readInto_31 rfl ?_
      rw [e25]
      refine v_cVI2 35 dX3_readInto_32 rfl fvX2_takes fiX2_takes ml_X3_249 (seX2) rfl ⟨(Nat.le_of_ble_eq_true rfl), (Nat.le_of_ble_eq_true rfl)⟩ (Nat.le_of_ble_eq_true rfl) (Nat.le_of_ble_eq_true rfl) (c_X2_takes hb hR (fun t u2 hS2 hR2 hF2 => ⟨_, rfl, ?_⟩) (fun q32 u2 hF2 => ⟨_, rfl, ?_⟩)) rfl
      · refine v_if_ne 40 38 dX3_readInto_35 rfl rfl (fun _ => ?_) (fun h => absurd h (by decide))
        refine icn_3_2 rfl 43 dX3_readInto_40 rfl rfl ?_
        refine v_goto 13 dX3_readInto_43 rfl ?_
        exact ih hlt _ _ ⟨s, hS, hS2⟩ hR2 (hF.tr hF2)
      · refine v_if_ne 40 38 dX3_readInto_35 rfl rfl (fun h => absurd rfl h) (fun _ => ?_)
        refine li_3_2 39 dX3_readInto_38 rfl ?_
        refine v_iret dX3_readInto_39 rfl ?_
        exact hQ _ s _ (Or.inl ⟨i, hlt, hS, q32, rfl⟩) (fun q => absurd q (by rcases (show i < 48 by omega) with _; exact nm9 (by omega))) (hF.tr hF2)
  refine la_3_1 1 dX3_readInto_0 rfl ?_
  refine v_cVN0 4 dX3_readInto_1 rfl fvX1_clear fiX1_clear ml_X3_243 (seX1 hb) rfl ⟨(Nat.le_of_ble_eq_true rfl), (Nat.le_of_ble_eq_true rfl)⟩ (Nat.le_of_ble_eq_true rfl) (Nat.le_of_ble_eq_true rfl) (c_X1_clear hb (fun u1 hC1 hF1 => ⟨rfl, ?_⟩)) rfl
  refine la_3_0 5 dX3_readInto_4 rfl ?_
  refine vg_X3_16 rfl 8 dX3_readInto_5 rfl ?_
  refine v_cVN0 11 dX3_readInto_8 rfl fvX2_begin fiX2_begin ml_X3_246 (seX2) rfl ⟨(Nat.le_of_ble_eq_true rfl), (Nat.le_of_ble_eq_true rfl)⟩ (Nat.le_of_ble_eq_true rfl) (Nat.le_of_ble_eq_true rfl) (c_X2_begin ⟨rfl, ?_⟩) rfl
  refine v_iconst (v := 0) 12 dX3_readInto_11 rfl ki_0 ?_
  refine si_3_2 rfl 13 dX3_readInto_12 rfl rfl ?_
  exact key 0 (Nat.zero_le _) _ (0, 0, 0, 0, P0) rfl ⟨(hC1.oR (by decide)).oR (by decide), rfl, rfl⟩ ((hF1.R hb).tr ((FrR.oI (by decide) (by decide)).tr (FrR.oI (by decide) (by decide))))

def mText (w : Wd) (T : TT) : Prop := w.1 20 = nI T.1 ∧ T.1 ≤ 48 ∧ ∀ i, i < T.1 → w.2.2 37 i = T.2 i
def mActs (w : Wd) (A : AT) : Prop := w.1 23 = nI A.1 ∧ A.1 ≤ 14 ∧ ∃ q, q < 14 ∧ w.1 24 = nI q ∧ ∀ i, i < A.1 → rowB (w.2.2 38) (30 * ((q + 14 - A.1 + i) % 14)) (A.2 i)
def mUsed (w : Wd) (U : Nat → Bool) : Prop := ∀ i, i < 2 → w.2.2 42 i = bI (U i)
def mSlots (w : Wd) (U : Nat → Bool) (K : Nat → PT) : Prop := ∀ i, i < 2 → U i = true → rowB (w.2.2 43) (30 * i) (K i)
def mSeen (w : Wd) (N : NT) : Prop := w.1 25 = nI N.1 ∧ N.1 ≤ 6 ∧ ∀ i, i < N.1 → w.2.2 39 i = nI (N.2.1 i) ∧ w.2.2 40 i = nI (N.2.2.1 i) ∧ w.2.2 41 i = bI (N.2.2.2 i)
def mR (w : Wd) (T : TT) (A : AT) (U : Nat → Bool) (K : Nat → PT) (N : NT) (z : Int64) : Prop := mText w T ∧ mActs w A ∧ mUsed w U ∧ mSlots w U K ∧ mSeen w N ∧ w.2.1 1 = z
def mS (w : Wd) (P : PT) (T : TT) (A : AT) (U : Nat → Bool) (K : Nat → PT) (N : NT) (z : Int64) : Prop := isM w 0 P ∧ mR w T A U K N z
def FrK (w u : Wd) : Prop := (∀ j, j < 16 → u.1 j = w.1 j) ∧ u.2.1 0 = w.2.1 0 ∧ (∀ r, r < 31 → u.2.2 r = w.2.2 r)
theorem FrK.rf {w : Wd} : FrK w w := ⟨fun _ _ => rfl, rfl, fun _ _ => rfl⟩
theorem FrK.tr {w u v : Wd} (h1 : FrK w u) (h2 : FrK u v) : FrK w v := ⟨fun j h => (h2.1 j h).trans (h1.1 j h), h2.2.1.trans h1.2.1, fun r h => (h2.2.2 r h).trans (h1.2.2 r h)⟩
theorem FrM.K {l : Nat} {w u : Wd} (h : FrM l w u) : FrK w u := ⟨fun j _ => by rw [h.1], by rw [h.2.1], fun r hr => h.2.2.1 r (by omega)⟩
theorem FrA.K {q : Nat} {w u : Wd} (hq : 31 ≤ q) (h : FrA q w u) : FrK w u := ⟨fun j _ => by rw [h.1], by rw [h.2.1], fun r hr => h.2.2 r (by omega)⟩
theorem FrK.oI {w : Wd} {j : Nat} {x : Int32} (hj : 16 ≤ j) : FrK w (sI w j x) := ⟨fun i hi => by simp only [sI, upd]; rw [if_neg (by omega)], rfl, fun _ _ => rfl⟩
theorem FrK.oA {w : Wd} {r : Nat} {f : Nat → Int32} (hr : 31 ≤ r) : FrK w (sA w r f) := (FrA.oA).K hr
theorem FrK.oJ {w : Wd} {x : Int64} : FrK w (sJ w 1 x) := ⟨fun _ _ => rfl, rfl, fun _ _ => rfl⟩
theorem mR.mv {w u : Wd} {T : TT} {A : AT} {U : Nat → Bool} {K : Nat → PT} {N : NT} {z : Int64} (h : mR w T A U K N z) (h1 : ∀ j, 20 ≤ j → u.1 j = w.1 j) (h2 : u.2.1 1 = w.2.1 1) (h3 : ∀ r, 37 ≤ r → u.2.2 r = w.2.2 r) : mR u T A U K N z := by
  obtain ⟨a, b, c, d, e, f⟩ := h
  obtain ⟨b1, b2, q, b3, b4, b5⟩ := b
  refine ⟨?_, ?_, ?_, ?_, ?_, ?_⟩
  · exact ⟨(h1 20 (by decide)).trans a.1, a.2.1, by rw [h3 37 (by decide)]; exact a.2.2⟩
  · exact ⟨(h1 23 (by decide)).trans b1, b2, q, b3, (h1 24 (by decide)).trans b4, by rw [h3 38 (by decide)]; exact b5⟩
  · unfold mUsed; rw [h3 42 (by decide)]; exact c
  · unfold mSlots; rw [h3 43 (by decide)]; exact d
  · exact ⟨(h1 25 (by decide)).trans e.1, e.2.1, by rw [h3 39 (by decide), h3 40 (by decide), h3 41 (by decide)]; exact e.2.2⟩
  · rw [h2]; exact f
theorem mR.fr {w u : Wd} {l : Nat} {T : TT} {A : AT} {U : Nat → Bool} {K : Nat → PT} {N : NT} {z : Int64} (h : mR w T A U K N z) (hF : FrM l w u) : mR u T A U K N z := h.mv (fun j _ => by rw [hF.1]) (by rw [hF.2.1]) (fun r hr => hF.2.2.1 r (by omega))
theorem mS.fr1 {w u : Wd} {P : PT} {T : TT} {A : AT} {U : Nat → Bool} {K : Nat → PT} {N : NT} {z : Int64} (h : mS w P T A U K N z) (hF : FrM 1 w u) : mS u P T A U K N z := ⟨h.1.fr (by decide) hF, h.2.fr hF⟩
theorem mS.fr0 {w u : Wd} {P R : PT} {T : TT} {A : AT} {U : Nat → Bool} {K : Nat → PT} {N : NT} {z : Int64} (h : mS w P T A U K N z) (hM : isM u 0 R) (hF : FrM 0 w u) : mS u R T A U K N z := ⟨hM, h.2.fr hF⟩
theorem isM.mv {w u : Wd} {l : Nat} {P : PT} (h : isM w l P) (h1 : u.1 16 = w.1 16) (h2 : u.1 17 = w.1 17) (h3 : ∀ r, 31 ≤ r → r < 34 → u.2.2 r = w.2.2 r) : isM u l P := by
  obtain ⟨a1, a2, a3, a4, a5, a6, a7⟩ := h
  exact ⟨h1.trans a1, h2.trans a2, a3, a4, by rw [h3 33 (by decide) (by decide)]; exact a5, by rw [h3 31 (by decide) (by decide)]; exact a6, by rw [h3 32 (by decide) (by decide)]; exact a7⟩
theorem isM.oS {w : Wd} {l j : Nat} {P : PT} {x : Int32} (h : isM w l P) (hj : 18 ≤ j) : isM (sI w j x) l P := h.mv (by simp only [sI, upd]; rw [if_neg (by omega)]) (by simp only [sI, upd]; rw [if_neg (by omega)]) (fun _ _ _ => rfl)
theorem isM.fA {w u : Wd} {l r : Nat} {P : PT} (h : isM w l P) (hr : 34 ≤ r) (hF : FrA r w u) : isM u l P := h.mv (by rw [hF.1]) (by rw [hF.1]) (fun q h1 h2 => hF.2.2 q (by omega))
set_option maxHeartbeats 4000000 in
set_option maxRecDepth 100000 in
theorem c_X4_keepAct {w : Wd} {P : PT} {T : TT} {A : AT} {U : Nat → Bool} {K : Nat → PT} {N : NT} {z : Int64} (hS : mS w P T A U K N z) {Q : Option Value → Wd → Prop} (hQ : ∀ u, mS u P T (pushA A P) U K N z → FrK w u → Q none u) : V mX4_keepAct 0 [some (.ref 1), none] [] w Q := by
  obtain ⟨hM, a, ⟨b1, b2, q, b3, b4, b5⟩, c, d, e, f⟩ := hS
  have key : ∀ i, i ≤ 30 → ∀ u, (∀ j, j < i → u.2.2 38 (30 * q + j) = w.2.2 33 (30 * 0 + j)) → (∀ j, (j < 30 * q ∨ 30 * q + 30 ≤ j) → u.2.2 38 j = w.2.2 38 j) → FrA 38 w u → V mX4_keepAct 2 [some (.ref 1), some (.int (nI i))] [] u Q := by
    refine up (P := fun i => ∀ u, (∀ j, j < i → u.2.2 38 (30 * q + j) = w.2.2 33 (30 * 0 + j)) → (∀ j, (j < 30 * q ∨ 30 * q + 30 ≤ j) → u.2.2 38 j = w.2.2 38 j) → FrA 38 w u → V mX4_keepAct 2 [some (.ref 1), some (.int (nI i))] [] u Q) (fun i hi ih => ?_)
    intro u hv hv2 hF
    have e24 : u.1 24 = nI q := by rw [hF.1]; exact b4
    have e23 : u.1 23 = nI A.1 := by rw [hF.1]; exact b1
    refine li_2_1 3 dX4_keepAct_2 rfl ?_
    refine v_bipush (v := 30) 5 dX4_keepAct_3 rfl kb_30 ?_
    refine v_icmp_ge 34 8 dX4_keepAct_5 rfl rfl (fun h5 => ?_) (fun h5 => ?_)
    · obtain rfl := ge_eq (n := 30) h5 hi (by omega)
      refine la_2_0 35 dX4_keepAct_34 rfl ?_
      refine la_2_0 36 dX4_keepAct_35 rfl ?_
      refine vg_X4_138 rfl 39 dX4_keepAct_36 rfl ?_
      rw [e24]
      refine v_iconst (v := 1) 40 dX4_keepAct_39 rfl ki_1 ?_
      refine v_iadd 41 dX4_keepAct_40 rfl ?_
      refine v_bipush (v := 14) 43 dX4_keepAct_41 rfl kb_14 ?_
      refine v_irem 44 dX4_keepAct_43 rfl (by decide) ?_
      rw [show nI q + 1 - (nI q + 1) / 14 * 14 = nI ((q + 1) % 14) from by rw [nI_1]; exact pk_rem (d := 14) (by omega) (by decide) (by decide)]
      refine vs_X4_138 rfl 47 dX4_keepAct_44 rfl ?_
      refine la_2_0 48 dX4_keepAct_47 rfl ?_
      refine la_2_0 49 dX4_keepAct_48 rfl ?_
      refine vg_X4_102 rfl 52 dX4_keepAct_49 rfl ?_
      show V mX4_keepAct 52 _ [.int (u.1 23), _] _ _
      rw [e23]
      refine v_bipush (v := 14) 54 dX4_keepAct_52 rfl kb_14 ?_
      refine v_icmp_ge 66 57 dX4_keepAct_54 rfl rfl (fun h54 => ?_) (fun h54 => ?_)
      · have hk : ¬ A.1 < 14 := fun kz => absurd h54 (nI_ge (b := 14) kz (by omega))
        refine v_bipush (v := 14) 68 dX4_keepAct_66 rfl kb_14 ?_
        refine vs_X4_102 rfl 71 dX4_keepAct_68 rfl ?_
        refine v_vret dX4_keepAct_71 rfl ?_
        refine hQ _ ⟨((hM.fA (by decide) hF).oS (by decide)).oS (by decide), ?_⟩ (((hF.K (by decide)).tr (FrK.oI (by decide))).tr (FrK.oI (by decide)))
        have hrow : rowB (u.2.2 38) (30 * q) P := ⟨hM.2.2.1, hM.2.2.2.1, hM.2.2.2.2.1.shift hM.2.2.1 hM.2.2.2.1 (fun j hj => hv j hj)⟩
        refine ⟨⟨by show u.1 20 = _; rw [hF.1]; exact a.1, a.2.1, ?_⟩, ?_, ?_, ?_, ⟨by show u.1 25 = _; rw [hF.1]; exact e.1, e.2.1, ?_⟩, by show u.2.1 1 = _; rw [hF.2.1]; exact f⟩
        · show ∀ i, i < T.1 → u.2.2 37 i = _; rw [hF.2.2 37 (by decide)]; exact a.2.2
        · have ea : pushA A P = (14, fun i => if i < 13 then A.2 (i + 1) else P) := if_neg hk
          rw [ea]
          have h14 : A.1 = 14 := by omega
          refine ⟨rfl, Nat.le_refl _, (q + 1) % 14, Nat.mod_lt _ (by decide), rfl, fun j hj => ?_⟩
          have hj' : j < 14 := hj
          show rowB (u.2.2 38) (30 * (((q + 1) % 14 + 14 - 14 + j) % 14)) (if j < 13 then A.2 (j + 1) else P)
          by_cases ej : j < 13
          · rw [if_pos ej, show ((q + 1) % 14 + 14 - 14 + j) % 14 = (q + 14 - A.1 + (j + 1)) % 14 by omega]
            exact (b5 (j + 1) (by omega)).shift (fun x hx => hv2 _ (by omega))
          · rw [if_neg ej, show ((q + 1) % 14 + 14 - 14 + j) % 14 = q by omega]; exact hrow
        · show ∀ i, i < 2 → u.2.2 42 i = _; rw [hF.2.2 42 (by decide)]; exact c
        · show ∀ i, i < 2 → U i = true → rowB (u.2.2 43) (30 * i) (K i); rw [hF.2.2 43 (by decide)]; exact d
        · show ∀ i, i < N.1 → u.2.2 39 i = _ ∧ u.2.2 40 i = _ ∧ u.2.2 41 i = _; rw [hF.2.2 39 (by decide), hF.2.2 40 (by decide), hF.2.2 41 (by decide)]; exact e.2.2
      · have hk : A.1 < 14 := ge_lt (n := 14) h54 (by omega) (by omega)
        refine la_2_0 58 dX4_keepAct_57 rfl ?_
        refine vg_X4_102 rfl 61 dX4_keepAct_58 rfl ?_
        show V mX4_keepAct 61 _ [.int (u.1 23), _] _ _
        rw [e23]
        refine v_iconst (v := 1) 62 dX4_keepAct_61 rfl ki_1 ?_
        refine v_iadd 63 dX4_keepAct_62 rfl ?_
        refine v_goto 68 dX4_keepAct_63 rfl ?_
        refine vs_X4_102 rfl 71 dX4_keepAct_68 rfl ?_
        refine v_vret dX4_keepAct_71 rfl ?_
        refine hQ _ ⟨((hM.fA (by decide) hF).oS (by decide)).oS (by decide), ?_⟩ (((hF.K (by decide)).tr (FrK.oI (by decide))).tr (FrK.oI (by decide)))
        have hrow : rowB (u.2.2 38) (30 * q) P := ⟨hM.2.2.1, hM.2.2.2.1, hM.2.2.2.2.1.shift hM.2.2.1 hM.2.2.2.1 (fun j hj => hv j hj)⟩
        refine ⟨⟨by show u.1 20 = _; rw [hF.1]; exact a.1, a.2.1, ?_⟩, ?_, ?_, ?_, ⟨by show u.1 25 = _; rw [hF.1]; exact e.1, e.2.1, ?_⟩, by show u.2.1 1 = _; rw [hF.2.1]; exact f⟩
        · show ∀ i, i < T.1 → u.2.2 37 i = _; rw [hF.2.2 37 (by decide)]; exact a.2.2
        · have ea : pushA A P = (A.1 + 1, fun i => if i = A.1 then P else A.2 i) := if_pos hk
          rw [ea]
          refine ⟨nI_1 A.1, by show A.1 + 1 ≤ 14; omega, (q + 1) % 14, Nat.mod_lt _ (by decide), rfl, fun j hj => ?_⟩
          have hj' : j < A.1 + 1 := hj
          show rowB (u.2.2 38) (30 * (((q + 1) % 14 + 14 - (A.1 + 1) + j) % 14)) (if j = A.1 then P else A.2 j)
          by_cases ej : j = A.1
          · rw [if_pos ej, show ((q + 1) % 14 + 14 - (A.1 + 1) + j) % 14 = q by omega]; exact hrow
          · rw [if_neg ej, show ((q + 1) % 14 + 14 - (A.1 + 1) + j) % 14 = (q + 14 - A.1 + j) % 14 by omega]
            exact (b5 j (by omega)).shift (fun x hx => hv2 _ (by omega))
        · show ∀ i, i < 2 → u.2.2 42 i = _; rw [hF.2.2 42 (by decide)]; exact c
        · show ∀ i, i < 2 → U i = true → rowB (u.2.2 43) (30 * i) (K i); rw [hF.2.2 43 (by decide)]; exact d
        · show ∀ i, i < N.1 → u.2.2 39 i = _ ∧ u.2.2 40 i = _ ∧ u.2.2 41 i = _; rw [hF.2.2 39 (by decide), hF.2.2 40 (by decide), hF.2.2 41 (by decide)]; exact e.2.2
    · have hlt := ge_lt (n := 30) h5 (by omega) (by omega)
      refine la_2_0 9 dX4_keepAct_8 rfl ?_
      refine vg_X4_31 rfl 12 dX4_keepAct_9 rfl ?_
      refine v_bipush (v := 30) 14 dX4_keepAct_12 rfl kb_30 ?_
      refine la_2_0 15 dX4_keepAct_14 rfl ?_
      refine vg_X4_138 rfl 18 dX4_keepAct_15 rfl ?_
      rw [e24]
      refine v_imul 19 dX4_keepAct_18 rfl ?_
      refine li_2_1 20 dX4_keepAct_19 rfl ?_
      refine v_iadd 21 dX4_keepAct_20 rfl ?_
      refine la_2_0 22 dX4_keepAct_21 rfl ?_
      refine vg_X4_16 rfl 25 dX4_keepAct_22 rfl ?_
      refine li_2_1 26 dX4_keepAct_25 rfl ?_
      refine vl_X4_now _ 27 dX4_keepAct_26 rfl rfl (by omega) ?_
      refine vw_X4_row (30 * q + i) 28 dX4_keepAct_27 rfl (ixA q i) (by omega) (vrel (fun u1 e1 F1 => ?_))
      refine icn_2_1 rfl 31 dX4_keepAct_28 rfl rfl ?_
      refine v_goto 2 dX4_keepAct_31 rfl ?_
      refine ih hlt _ (fun j hj => ?_) (fun j hj => ?_) (hF.tr F1)
      · rw [e1]
        by_cases ej : j = i
        · rw [if_pos (by rw [ej]), hF.2.2 33 (by decide), ej, Nat.mul_zero, Nat.zero_add]
        · rw [if_neg (by omega)]; exact hv j (by omega)
      · rw [e1, if_neg (by omega)]; exact hv2 j hj
  refine v_iconst (v := 0) 1 dX4_keepAct_0 rfl ki_0 ?_
  refine si_2_1 rfl 2 dX4_keepAct_1 rfl rfl ?_
  exact key 0 (Nat.zero_le _) w (fun j hj => absurd hj (Nat.not_lt_zero j)) (fun _ _ => rfl) FrA.rf
set_option maxHeartbeats 4000000 in
set_option maxRecDepth 100000 in
theorem c_X4_wipe {w : Wd} {P : PT} {T : TT} {A : AT} {U : Nat → Bool} {K : Nat → PT} {N : NT} {z : Int64} (hS : mS w P T A U K N z) {Q : Option Value → Wd → Prop} (hQ : ∀ u, mS u P (0, T.2) A U K N z → FrK w u → Q (some (.int (nI T.1))) u) : V mX4_wipe 0 [some (.ref 1), none] [] w Q := by
  have b5 := hS.1.2.2.1
  have b4 := hS.1.2.2.2.1
  refine la_2_0 1 dX4_wipe_0 rfl ?_
  refine vg_X4_60 rfl 4 dX4_wipe_1 rfl ?_
  rw [hS.2.1.1]
  refine si_2_1 rfl 5 dX4_wipe_4 rfl rfl ?_
  refine la_2_0 6 dX4_wipe_5 rfl ?_
  refine v_iconst (v := 0) 7 dX4_wipe_6 rfl ki_0 ?_
  refine vs_X4_60 rfl 10 dX4_wipe_7 rfl ?_
  refine li_2_1 11 dX4_wipe_10 rfl ?_
  refine v_iret dX4_wipe_11 rfl ?_
  exact hQ _ ⟨hS.1.oS (by decide), ⟨rfl, Nat.zero_le _, fun i hi => absurd hi (Nat.not_lt_zero i)⟩, hS.2.2.1, hS.2.2.2.1, hS.2.2.2.2.1, hS.2.2.2.2.2.1, hS.2.2.2.2.2.2⟩ (FrK.oI (by decide))
set_option maxHeartbeats 4000000 in
set_option maxRecDepth 100000 in
theorem c_X4_unsee {w : Wd} {P : PT} {T : TT} {A : AT} {U : Nat → Bool} {K : Nat → PT} {N : NT} {z : Int64} (hS : mS w P T A U K N z) {Q : Option Value → Wd → Prop} (hQ : ∀ u, mS u P T A U K (0, N.2) z → FrK w u → Q (some (.int (nI N.1))) u) : V mX4_unsee 0 [some (.ref 1), none] [] w Q := by
  have b5 := hS.1.2.2.1
  have b4 := hS.1.2.2.2.1
  refine la_2_0 1 dX4_unsee_0 rfl ?_
  refine vg_X4_193 rfl 4 dX4_unsee_1 rfl ?_
  rw [hS.2.2.2.2.2.1.1]
  refine si_2_1 rfl 5 dX4_unsee_4 rfl rfl ?_
  refine la_2_0 6 dX4_unsee_5 rfl ?_
  refine v_iconst (v := 0) 7 dX4_unsee_6 rfl ki_0 ?_
  refine vs_X4_193 rfl 10 dX4_unsee_7 rfl ?_
  refine li_2_1 11 dX4_unsee_10 rfl ?_
  refine v_iret dX4_unsee_11 rfl ?_
  exact hQ _ ⟨hS.1.oS (by decide), hS.2.1, hS.2.2.1, hS.2.2.2.1, hS.2.2.2.2.1, ⟨rfl, Nat.zero_le _, fun i hi => absurd hi (Nat.not_lt_zero i)⟩, hS.2.2.2.2.2.2⟩ (FrK.oI (by decide))
set_option maxHeartbeats 4000000 in
set_option maxRecDepth 100000 in
theorem c_X4_seed {w : Wd} {P : PT} {T : TT} {A : AT} {U : Nat → Bool} {K : Nat → PT} {N : NT} {z : Int64} (hS : mS w P T A U K N z) {v : Int64} {Q : Option Value → Wd → Prop} (hQ : ∀ u, mS u P T A U K N v → FrK w u → Q (some (.long z)) u) : V mX4_seed 0 [some (.ref 1), some (.long v), none, none, none] [] w Q := by
  have b5 := hS.1.2.2.1
  have b4 := hS.1.2.2.2.1
  refine la_5_0 1 dX4_seed_0 rfl ?_
  refine vg_X4_214 rfl 4 dX4_seed_1 rfl ?_
  refine sl_5_3 rfl 5 dX4_seed_4 rfl rfl ?_
  refine la_5_0 6 dX4_seed_5 rfl ?_
  refine ll_5_1 7 dX4_seed_6 rfl ?_
  refine vs_X4_214 rfl 10 dX4_seed_7 rfl ?_
  refine ll_5_3 11 dX4_seed_10 rfl ?_
  refine v_lret dX4_seed_11 rfl ?_
  rw [hS.2.2.2.2.2.2]
  exact hQ _ ⟨hS.1, hS.2.1, hS.2.2.1, hS.2.2.2.1, hS.2.2.2.2.1, hS.2.2.2.2.2.1, rfl⟩ FrK.oJ
set_option maxHeartbeats 4000000 in
set_option maxRecDepth 100000 in
theorem c_X4_week {w : Wd} {P : PT} {T : TT} {A : AT} {U : Nat → Bool} {K : Nat → PT} {N : NT} {z : Int64} (hS : mS w P T A U K N z) (hz : P.1.2.2.2 = 0 ∨ P.1.2.2.2 = 1) {Q : Option Value → Wd → Prop} (hQ : ∀ u, mS u (passP P) T (pushA A P) U K N z → FrK w u → Q (some (.int (onI (aliveP (passP P)) 5))) u) : V mX4_week 0 [some (.ref 1)] [] w Q := by
  have b5 := hS.1.2.2.1
  have b4 := hS.1.2.2.2.1
  refine la_1_0 1 dX4_week_0 rfl ?_
  refine v_cVN0 4 dX4_week_1 rfl fvX4_keepAct fiX4_keepAct ml_X4_141 (seX4) rfl ⟨(Nat.le_of_ble_eq_true rfl), (Nat.le_of_ble_eq_true rfl)⟩ (Nat.le_of_ble_eq_true rfl) (Nat.le_of_ble_eq_true rfl) (c_X4_keepAct hS (fun u1 hS1 G1 => ⟨rfl, ?_⟩)) rfl
  refine la_1_0 5 dX4_week_4 rfl ?_
  refine v_iconst (v := 0) 6 dX4_week_5 rfl ki_0 ?_
  refine v_cVN1 9 dX4_week_6 rfl fvX4_passOn fiX4_passOn ml_X4_144 (seX4) rfl ⟨(Nat.le_of_ble_eq_true rfl), (Nat.le_of_ble_eq_true rfl)⟩ (Nat.le_of_ble_eq_true rfl) (Nat.le_of_ble_eq_true rfl) (c_X4_passOn (l := 0) hS1.1 hb0 hz (fun u2 hM2 hF2 => ⟨rfl, ?_⟩)) rfl
  refine la_1_0 10 dX4_week_9 rfl ?_
  refine v_iconst (v := 0) 11 dX4_week_10 rfl ki_0 ?_
  refine v_cVI1 14 dX4_week_11 rfl fvX4_living fiX4_living ml_X4_115 (seX4) rfl ⟨(Nat.le_of_ble_eq_true rfl), (Nat.le_of_ble_eq_true rfl)⟩ (Nat.le_of_ble_eq_true rfl) (Nat.le_of_ble_eq_true rfl) (c_X4_living (l := 0) hM2 hb0 ⟨_, rfl, ?_⟩) rfl
  refine v_cSI1 17 dX4_week_14 rfl fvX4_ones fsX4_ones ml_X4_147 ⟨(Nat.le_of_ble_eq_true rfl), (Nat.le_of_ble_eq_true rfl)⟩ (Nat.le_of_ble_eq_true rfl) (Nat.le_of_ble_eq_true rfl) (c_X4_ones ⟨_, rfl, ?_⟩) rfl
  refine v_iret dX4_week_17 rfl ?_
  exact hQ _ (hS1.fr0 hM2 hF2) (G1.tr hF2.K)

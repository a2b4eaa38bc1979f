theorem rowR.shift {f g : Nat → Int32} {a c : Nat} {P : PT} (h : rowR f a P) (h5 : P.1.1 ≤ 5) (h4 : P.1.2.1 ≤ 4) (e : ∀ j, j < 30 → g (c + j) = f (a + j)) : rowR g c P := by
  obtain ⟨h1, h2, h3, h6⟩ := h
  refine ⟨(e 29 (by decide)).trans h1, (e 28 (by decide)).trans h2, fun s hs => ?_, fun s hs => ?_⟩
  · obtain ⟨a0, a1, a2, a3⟩ := h3 s hs
    refine ⟨(e s (by omega)).trans a0, ?_, ?_, ?_⟩
    · rw [Nat.add_assoc, e (5 + s) (by omega), ← Nat.add_assoc]; exact a1
    · rw [Nat.add_assoc, e (10 + s) (by omega), ← Nat.add_assoc]; exact a2
    · rw [Nat.add_assoc, e (15 + s) (by omega), ← Nat.add_assoc]; exact a3
  · obtain ⟨a0, a1⟩ := h6 s hs
    refine ⟨?_, ?_⟩
    · rw [Nat.add_assoc, e (20 + s) (by omega), ← Nat.add_assoc]; exact a0
    · rw [Nat.add_assoc, e (24 + s) (by omega), ← Nat.add_assoc]; exact a1
def rowB (f : Nat → Int32) (a : Nat) (P : PT) : Prop := P.1.1 ≤ 5 ∧ P.1.2.1 ≤ 4 ∧ rowR f a P
theorem rowB.shift {f g : Nat → Int32} {a c : Nat} {P : PT} (h : rowB f a P) (e : ∀ j, j < 30 → g (c + j) = f (a + j)) : rowB g c P := ⟨h.1, h.2.1, h.2.2.shift h.1 h.2.1 e⟩
def bI (x : Bool) : Int32 := if x then 1 else 0
abbrev TT : Type := Nat × (Nat → Int32)
abbrev AT : Type := Nat × (Nat → PT)
abbrev NT : Type := Nat × (Nat → Nat) × (Nat → Nat) × (Nat → Bool)
def pText (w : Wd) (T : TT) : Prop := w.1 0 = nI T.1 ∧ T.1 ≤ 48 ∧ ∀ i, i < T.1 → w.2.2 25 i = T.2 i
def pActs (w : Wd) (A : AT) : Prop := w.1 1 = nI A.1 ∧ A.1 ≤ 14 ∧ ∀ i, i < A.1 → rowB (w.2.2 (mc 0)) (30 * i) (A.2 i)
def pUsed (w : Wd) (U : Nat → Bool) : Prop := ∀ i, i < 2 → w.2.2 26 i = bI (U i)
def pSlots (w : Wd) (U : Nat → Bool) (K : Nat → PT) : Prop := ∀ i, i < 2 → U i = true → rowB (w.2.2 (mc 1)) (30 * i) (K i)
def pSeen (w : Wd) (N : NT) : Prop := w.1 2 = nI N.1 ∧ N.1 ≤ 6 ∧ ∀ i, i < N.1 → w.2.2 27 i = nI (N.2.1 i) ∧ w.2.2 28 i = nI (N.2.2.1 i) ∧ w.2.2 29 i = bI (N.2.2.2 i)
def cR (w : Wd) (T : TT) (A : AT) (U : Nat → Bool) (K : Nat → PT) (N : NT) (z : Int64) : Prop := pText w T ∧ pActs w A ∧ pUsed w U ∧ pSlots w U K ∧ pSeen w N ∧ w.2.1 0 = z
def cS (w : Wd) (P : PT) (T : TT) (A : AT) (U : Nat → Bool) (K : Nat → PT) (N : NT) (z : Int64) : Prop := isC w 0 P ∧ cR w T A U K N z
def FrC (w u : Wd) : Prop := (∀ j, 16 ≤ j → u.1 j = w.1 j) ∧ u.2.1 1 = w.2.1 1 ∧ (∀ r, 31 ≤ r → u.2.2 r = w.2.2 r)
theorem FrC.rf {w : Wd} : FrC w w := ⟨fun _ _ => rfl, rfl, fun _ _ => rfl⟩
theorem FrC.tr {w u v : Wd} (h1 : FrC w u) (h2 : FrC u v) : FrC w v := ⟨fun j h => (h2.1 j h).trans (h1.1 j h), h2.2.1.trans h1.2.1, fun r h => (h2.2.2 r h).trans (h1.2.2 r h)⟩
theorem Fr.C {b : Nat} {w u : Wd} (hb : b < 2) (h : Fr b w u) : FrC w u := ⟨fun j hj => h.1 j (by omega), by rw [h.2.1], fun r hr => h.2.2 r (by omega)⟩
theorem FrR.C {b : Nat} {w u : Wd} (hb : b < 2) (h : FrR b w u) : FrC w u := ⟨fun j hj => h.1 j (by omega), by rw [h.2.1], fun r hr => h.2.2 r (by omega)⟩
theorem FrA.C {q : Nat} {w u : Wd} (hq : q < 31) (h : FrA q w u) : FrC w u := ⟨fun j hj => by rw [h.1], by rw [h.2.1], fun r hr => h.2.2 r (by omega)⟩
theorem FrC.oI {w : Wd} {j : Nat} {x : Int32} (hj : j < 16) : FrC w (sI w j x) := ⟨fun i hi => by simp only [sI, upd]; rw [if_neg (by omega)], rfl, fun _ _ => rfl⟩
theorem FrC.oA {w : Wd} {r : Nat} {f : Nat → Int32} (hr : r < 31) : FrC w (sA w r f) := (FrA.oA).C hr
theorem FrC.oJ {w : Wd} {x : Int64} : FrC w (sJ w 0 x) := ⟨fun _ _ => rfl, rfl, fun _ _ => rfl⟩
theorem cR.mv {w u : Wd} {T : TT} {A : AT} {U : Nat → Bool} {K : Nat → PT} {N : NT} {z : Int64} (h : cR w T A U K N z) (h1 : ∀ j, j < 3 → u.1 j = w.1 j) (h2 : u.2.1 0 = w.2.1 0) (h3 : ∀ r, 23 ≤ r → r < 30 → u.2.2 r = w.2.2 r) : cR u T A U K N z := by
  obtain ⟨a, b, c, d, e, f⟩ := h
  refine ⟨?_, ?_, ?_, ?_, ?_, ?_⟩
  · exact ⟨(h1 0 (by decide)).trans a.1, a.2.1, by rw [h3 25 (by decide) (by decide)]; exact a.2.2⟩
  · exact ⟨(h1 1 (by decide)).trans b.1, b.2.1, by rw [h3 (mc 0) (by decide) (by decide)]; exact b.2.2⟩
  · unfold pUsed; rw [h3 26 (by decide) (by decide)]; exact c
  · unfold pSlots; rw [h3 (mc 1) (by decide) (by decide)]; exact d
  · exact ⟨(h1 2 (by decide)).trans e.1, e.2.1, by rw [h3 27 (by decide) (by decide), h3 28 (by decide) (by decide), h3 29 (by decide) (by decide)]; exact e.2.2⟩
  · rw [h2]; exact f
theorem cR.fr {w u : Wd} {b : Nat} {T : TT} {A : AT} {U : Nat → Bool} {K : Nat → PT} {N : NT} {z : Int64} (h : cR w T A U K N z) (hb : b < 2) (hF : Fr b w u) : cR u T A U K N z := h.mv (fun j hj => hF.1 j (by omega)) (by rw [hF.2.1]) (fun r h1 h2 => hF.2.2 r (by omega))
theorem cR.frR {w u : Wd} {b : Nat} {T : TT} {A : AT} {U : Nat → Bool} {K : Nat → PT} {N : NT} {z : Int64} (h : cR w T A U K N z) (hb : b < 2) (hF : FrR b w u) : cR u T A U K N z := h.mv (fun j hj => hF.1 j (by omega)) (by rw [hF.2.1]) (fun r h1 h2 => hF.2.2 r (by omega))
theorem isC.mv {w u : Wd} {b : Nat} {P : PT} (h : isC w b P) (h1 : ∀ j, j < 4 → u.1 (pj b j) = w.1 (pj b j)) (h2 : ∀ j, j < 8 → u.2.2 (ar b j) = w.2.2 (ar b j)) : isC u b P := by
  obtain ⟨a1, a2, a3, a4, a5, a6, a7, a8⟩ := h
  exact ⟨(h1 0 (by decide)).trans a1, (h1 1 (by decide)).trans a2, (h1 2 (by decide)).trans a3, (h1 3 (by decide)).trans a4, a5, a6, fun j s a c => by unfold px; rw [h2 j (by omega)]; exact a7 j s a c, fun j s a a2 c => by unfold px; rw [h2 j a2]; exact a8 j s a a2 c⟩
theorem isC.oS {w : Wd} {b j : Nat} {P : PT} {x : Int32} (h : isC w b P) (hj : j < 8) : isC (sI w j x) b P := h.mv (fun i _ => by simp only [sI, upd]; rw [if_neg (by unfold pj; omega)]) (fun _ _ => rfl)
theorem isC.oT {w : Wd} {b r : Nat} {P : PT} {f : Nat → Int32} (h : isC w b P) (hb : b < 2) (hr : 22 < r) : isC (sA w r f) b P := h.fA hb hr FrA.oA
theorem cS.fr1 {w u : Wd} {P : PT} {T : TT} {A : AT} {U : Nat → Bool} {K : Nat → PT} {N : NT} {z : Int64} (h : cS w P T A U K N z) (hF : Fr 1 w u) : cS u P T A U K N z := ⟨h.1.fr (by decide) hF, h.2.fr (by decide) hF⟩
theorem cS.fr0 {w u : Wd} {P R : PT} {T : TT} {A : AT} {U : Nat → Bool} {K : Nat → PT} {N : NT} {z : Int64} (h : cS w P T A U K N z) (hC : isC u 0 R) (hF : Fr 0 w u) : cS u R T A U K N z := ⟨hC, h.2.fr (by decide) hF⟩
def pushA (A : AT) (P : PT) : AT := if A.1 < 14 then (A.1 + 1, fun i => if i = A.1 then P else A.2 i) else (14, fun i => if i < 13 then A.2 (i + 1) else P)
set_option maxHeartbeats 4000000 in
set_option maxRecDepth 100000 in
theorem c_X3_remember {w : Wd} {P : PT} {T : TT} {A : AT} {U : Nat → Bool} {K : Nat → PT} {N : NT} {z : Int64} (hS : cS w P T A U K N z) (hz : P.1.2.2.2 = 0 ∨ P.1.2.2.2 = 1) {Q : Option Value → Wd → Prop} (hQ : ∀ u, cS u P T (pushA A P) U K N z → FrC w u → Q none u) : V mX3_remember 0 [some (.ref 0)] [] w Q := by
  have h14 := hS.2.2.1.2.1
  refine la_1_0 1 dX3_remember_0 rfl ?_
  refine vg_X3_70 rfl 4 dX3_remember_1 rfl ?_
  rw [hS.2.2.1.1]
  refine v_bipush (v := 14) 6 dX3_remember_4 rfl kb_14 ?_
  refine v_icmp_lt 22 9 dX3_remember_6 rfl rfl (fun h6 => ?_) (fun h6 => ?_)
  · have hk : A.1 < 14 := (nI_ltI (b := 14) (by omega) (by omega)).mp h6
    refine la_1_0 23 dX3_remember_22 rfl ?_
    refine vg_X3_35 rfl 26 dX3_remember_23 rfl ?_
    refine la_1_0 27 dX3_remember_26 rfl ?_
    refine vg_X3_70 rfl 30 dX3_remember_27 rfl ?_
    refine la_1_0 31 dX3_remember_30 rfl ?_
    refine vg_X3_23 rfl 34 dX3_remember_31 rfl ?_
    rw [hS.2.2.1.1]
    refine v_cVN2 37 dX3_remember_34 rfl fvX0_store fiX0_store ml_X3_231 (seX0 hb0) rfl ⟨(Nat.le_of_ble_eq_true rfl), (Nat.le_of_ble_eq_true rfl)⟩ (Nat.le_of_ble_eq_true rfl) (Nat.le_of_ble_eq_true rfl) (c_X0_store hb0 hb0 hS.1 hz (k := A.1) (by show 30 * A.1 + 30 ≤ 420; omega) (fun u2 r2 e2 F2 => ⟨rfl, ?_⟩)) rfl
    refine la_1_0 38 dX3_remember_37 rfl ?_
    refine v_dup 39 dX3_remember_38 rfl rfl ?_
    refine vg_X3_70 rfl 42 dX3_remember_39 rfl ?_
    refine v_iconst (v := 1) 43 dX3_remember_42 rfl ki_1 ?_
    refine v_iadd 44 dX3_remember_43 rfl ?_
    refine vs_X3_70 rfl 47 dX3_remember_44 rfl ?_
    refine v_vret dX3_remember_47 rfl ?_
    refine hQ _ ⟨(hS.1.fA hb0 (by decide) F2).oS (by decide), ?_⟩ ((F2.C (by decide)).tr (FrC.oI (by decide)))
    obtain ⟨a, b, c, d, e, f⟩ := hS.2
    have ea : pushA A P = (A.1 + 1, fun i => if i = A.1 then P else A.2 i) := if_pos hk
    rw [ea]
    refine ⟨⟨?_, a.2.1, ?_⟩, ⟨?_, by show A.1 + 1 ≤ 14; omega, fun i hi => ?_⟩, ?_, ?_, ⟨?_, e.2.1, ?_⟩, ?_⟩
    · show u2.1 0 = _; rw [F2.1]; exact a.1
    · show ∀ i, i < T.1 → u2.2.2 25 i = _; rw [F2.2.2 25 (by decide)]; exact a.2.2
    · show u2.1 1 + 1 = _; rw [F2.1, b.1]; exact nI_1 _
    · show rowB (u2.2.2 (mc 0)) (30 * i) (if i = A.1 then P else A.2 i)
      by_cases hi2 : i = A.1
      · rw [if_pos hi2, hi2]; exact ⟨hS.1.2.2.2.2.1, hS.1.2.2.2.2.2.1, r2⟩
      · rw [if_neg hi2]
        have hi' : i < A.1 + 1 := hi
        exact (b.2.2 i (by omega)).shift (fun j hj => e2 _ (by omega))
    · show ∀ i, i < 2 → u2.2.2 26 i = _; rw [F2.2.2 26 (by decide)]; exact c
    · show ∀ i, i < 2 → U i = true → rowB (u2.2.2 (mc 1)) (30 * i) (K i); rw [F2.2.2 (mc 1) (by decide)]; exact d
    · show u2.1 2 = _; rw [F2.1]; exact e.1
    · show ∀ i, i < N.1 → u2.2.2 27 i = _ ∧ u2.2.2 28 i = _ ∧ u2.2.2 29 i = _; rw [F2.2.2 27 (by decide), F2.2.2 28 (by decide), F2.2.2 29 (by decide)]; exact e.2.2
    · show u2.2.1 0 = _; rw [F2.2.1]; exact f
  · have hk : ¬ A.1 < 14 := fun z => h6 ((nI_ltI (b := 14) (by omega) (by omega)).mpr z)
    refine la_1_0 10 dX3_remember_9 rfl ?_
    refine vg_X3_35 rfl 13 dX3_remember_10 rfl ?_
    refine v_cVN0 16 dX3_remember_13 rfl fvX0_forgetFirst fiX0_forgetFirst ml_X3_257 (seX0 hb0) rfl ⟨(Nat.le_of_ble_eq_true rfl), (Nat.le_of_ble_eq_true rfl)⟩ (Nat.le_of_ble_eq_true rfl) (Nat.le_of_ble_eq_true rfl) (c_X0_forgetFirst (fun u1 e1 F1 => ⟨rfl, ?_⟩)) rfl
    refine la_1_0 17 dX3_remember_16 rfl ?_
    refine v_bipush (v := 13) 19 dX3_remember_17 rfl kb_13 ?_
    refine vs_X3_70 rfl 22 dX3_remember_19 rfl ?_
    refine la_1_0 23 dX3_remember_22 rfl ?_
    refine vg_X3_35 rfl 26 dX3_remember_23 rfl ?_
    refine la_1_0 27 dX3_remember_26 rfl ?_
    refine vg_X3_70 rfl 30 dX3_remember_27 rfl ?_
    refine la_1_0 31 dX3_remember_30 rfl ?_
    refine vg_X3_23 rfl 34 dX3_remember_31 rfl ?_
    skip
    refine v_cVN2 37 dX3_remember_34 rfl fvX0_store fiX0_store ml_X3_231 (seX0 hb0) rfl ⟨(Nat.le_of_ble_eq_true rfl), (Nat.le_of_ble_eq_true rfl)⟩ (Nat.le_of_ble_eq_true rfl) (Nat.le_of_ble_eq_true rfl) (c_X0_store hb0 hb0 ((hS.1.fA hb0 (by decide) F1).oS (by decide)) hz (k := 13) (by decide) (fun u2 r2 e2 F2 => ⟨rfl, ?_⟩)) rfl
    refine la_1_0 38 dX3_remember_37 rfl ?_
    refine v_dup 39 dX3_remember_38 rfl rfl ?_
    refine vg_X3_70 rfl 42 dX3_remember_39 rfl ?_
    refine v_iconst (v := 1) 43 dX3_remember_42 rfl ki_1 ?_
    refine v_iadd 44 dX3_remember_43 rfl ?_
    refine vs_X3_70 rfl 47 dX3_remember_44 rfl ?_
    refine v_vret dX3_remember_47 rfl ?_
    refine hQ _ ⟨(((hS.1.fA hb0 (by decide) F1).oS (by decide)).fA hb0 (by decide) F2).oS (by decide), ?_⟩ ((((F1.C (by decide)).tr (FrC.oI (by decide))).tr (F2.C (by decide))).tr (FrC.oI (by decide)))
    obtain ⟨a, b, c, d, e, f⟩ := hS.2
    have ea : pushA A P = (14, fun i => if i < 13 then A.2 (i + 1) else P) := if_neg hk
    rw [ea]
    have g1 : ∀ j, ¬ j = 1 → u2.1 j = w.1 j := fun j hj => by rw [F2.1]; show upd u1.1 1 13 j = _; simp only [upd, if_neg hj]; rw [F1.1]
    have g2 : ∀ r, ¬ r = mc 0 → u2.2.2 r = w.2.2 r := fun r hr => (F2.2.2 r hr).trans (F1.2.2 r hr)
    refine ⟨⟨?_, a.2.1, ?_⟩, ⟨?_, Nat.le_refl _, fun i hi => ?_⟩, ?_, ?_, ⟨?_, e.2.1, ?_⟩, ?_⟩
    · show u2.1 0 = _; rw [g1 0 (by decide)]; exact a.1
    · show ∀ i, i < T.1 → u2.2.2 25 i = _; rw [g2 25 (by decide)]; exact a.2.2
    · show u2.1 1 + 1 = _; rw [F2.1]; rfl
    · show rowB (u2.2.2 (mc 0)) (30 * i) (if i < 13 then A.2 (i + 1) else P)
      have hi' : i < 14 := hi
      by_cases hi2 : i < 13
      · rw [if_pos hi2]
        refine (b.2.2 (i + 1) (by omega)).shift (fun j hj => ?_)
        rw [e2 _ (by omega)]
        show u1.2.2 (mc 0) (30 * i + j) = _
        rw [e1 _ (by omega)]
        rw [show 30 + (30 * i + j) = 30 * (i + 1) + j by omega]
      · rw [if_neg hi2, show i = 13 by omega]; exact ⟨hS.1.2.2.2.2.1, hS.1.2.2.2.2.2.1, r2⟩
    · show ∀ i, i < 2 → u2.2.2 26 i = _; rw [g2 26 (by decide)]; exact c
    · show ∀ i, i < 2 → U i = true → rowB (u2.2.2 (mc 1)) (30 * i) (K i); rw [g2 (mc 1) (by decide)]; exact d
    · show u2.1 2 = _; rw [g1 2 (by decide)]; exact e.1
    · show ∀ i, i < N.1 → u2.2.2 27 i = _ ∧ u2.2.2 28 i = _ ∧ u2.2.2 29 i = _; rw [g2 27 (by decide), g2 28 (by decide), g2 29 (by decide)]; exact e.2.2
    · show u2.2.1 0 = _; rw [F2.2.1]; show u1.2.1 0 = _; rw [F1.2.1]; exact f
set_option maxHeartbeats 4000000 in
set_option maxRecDepth 100000 in
theorem c_X3_wipe {w : Wd} {P : PT} {T : TT} {A : AT} {U : Nat → Bool} {K : Nat → PT} {N : NT} {z : Int64} (hS : cS w P T A U K N z) {Q : Option Value → Wd → Prop} (hQ : ∀ u, cS u P (0, T.2) A U K N z → FrC w u → Q (some (.int (nI T.1))) u) : V mX3_wipe 0 [some (.ref 0), none] [] w Q := by
  refine la_2_0 1 dX3_wipe_0 rfl ?_
  refine vg_X3_58 rfl 4 dX3_wipe_1 rfl ?_
  rw [hS.2.1.1]
  refine si_2_1 rfl 5 dX3_wipe_4 rfl rfl ?_
  refine la_2_0 6 dX3_wipe_5 rfl ?_
  refine v_iconst (v := 0) 7 dX3_wipe_6 rfl ki_0 ?_
  refine vs_X3_58 rfl 10 dX3_wipe_7 rfl ?_
  refine li_2_1 11 dX3_wipe_10 rfl ?_
  refine v_iret dX3_wipe_11 rfl ?_
  exact hQ _ ⟨hS.1.oS (by decide), ⟨rfl, Nat.zero_le _, fun i hi => absurd hi (Nat.not_lt_zero i)⟩, hS.2.2.1, hS.2.2.2.1, hS.2.2.2.2.1, hS.2.2.2.2.2.1, hS.2.2.2.2.2.2⟩ (FrC.oI (by decide))
set_option maxHeartbeats 4000000 in
set_option maxRecDepth 100000 in
theorem c_X3_unsee {w : Wd} {P : PT} {T : TT} {A : AT} {U : Nat → Bool} {K : Nat → PT} {N : NT} {z : Int64} (hS : cS w P T A U K N z) {Q : Option Value → Wd → Prop} (hQ : ∀ u, cS u P T A U K (0, N.2) z → FrC w u → Q (some (.int (nI N.1))) u) : V mX3_unsee 0 [some (.ref 0), none] [] w Q := by
  refine la_2_0 1 dX3_unsee_0 rfl ?_
  refine vg_X3_187 rfl 4 dX3_unsee_1 rfl ?_
  rw [hS.2.2.2.2.2.1.1]
  refine si_2_1 rfl 5 dX3_unsee_4 rfl rfl ?_
  refine la_2_0 6 dX3_unsee_5 rfl ?_
  refine v_iconst (v := 0) 7 dX3_unsee_6 rfl ki_0 ?_
  refine vs_X3_187 rfl 10 dX3_unsee_7 rfl ?_
  refine li_2_1 11 dX3_unsee_10 rfl ?_
  refine v_iret dX3_unsee_11 rfl ?_
  exact hQ _ ⟨hS.1.oS (by decide), hS.2.1, hS.2.2.1, hS.2.2.2.1, hS.2.2.2.2.1, ⟨rfl, Nat.zero_le _, fun i hi => absurd hi (Nat.not_lt_zero i)⟩, hS.2.2.2.2.2.2⟩ (FrC.oI (by decide))
set_option maxHeartbeats 4000000 in
set_option maxRecDepth 100000 in
theorem c_X3_seed {w : Wd} {P : PT} {T : TT} {A : AT} {U : Nat → Bool} {K : Nat → PT} {N : NT} {z : Int64} (hS : cS w P T A U K N z) {v : Int64} {Q : Option Value → Wd → Prop} (hQ : ∀ u, cS u P T A U K N v → FrC w u → Q (some (.long z)) u) : V mX3_seed 0 [some (.ref 0), some (.long v), none, none, none] [] w Q := by
  refine la_5_0 1 dX3_seed_0 rfl ?_
  refine vg_X3_218 rfl 4 dX3_seed_1 rfl ?_
  refine sl_5_3 rfl 5 dX3_seed_4 rfl rfl ?_
  refine la_5_0 6 dX3_seed_5 rfl ?_
  refine ll_5_1 7 dX3_seed_6 rfl ?_
  refine vs_X3_218 rfl 10 dX3_seed_7 rfl ?_
  refine ll_5_3 11 dX3_seed_10 rfl ?_
  refine v_lret dX3_seed_11 rfl ?_
  rw [hS.2.2.2.2.2.2]
  exact hQ _ ⟨hS.1, hS.2.1, hS.2.2.1, hS.2.2.2.1, hS.2.2.2.2.1, hS.2.2.2.2.2.1, rfl⟩ FrC.oJ
set_option maxHeartbeats 4000000 in
set_option maxRecDepth 100000 in
theorem c_X3_write {w : Wd} {P : PT} {T : TT} {A : AT} {U : Nat → Bool} {K : Nat → PT} {N : NT} {z : Int64} (hS : cS w P T A U K N z) {c : Int32} {Q : Option Value → Wd → Prop} (a1 : (c < 0 ∨ ¬ c ≤ 255) → Q (some (.int (-2))) w) (a2 : ¬ c < 0 → c ≤ 255 → T.1 = 48 → Q (some (.int (-4))) w) (a3 : ¬ c < 0 → c ≤ 255 → T.1 < 48 → ∀ u, cS u P (T.1 + 1, fun i => if i = T.1 then c else T.2 i) A U K N z → FrC w u → Q (some (.int (nI (T.1 + 1)))) u) : V mX3_write 0 [some (.ref 0), some (.int c)] [] w Q := by
  have h48 := hS.2.1.2.1
  refine li_2_1 1 dX3_write_0 rfl ?_
  refine v_if_lt 11 4 dX3_write_1 rfl rfl (fun h1 => ?_) (fun h1 => ?_)
  · refine v_bipush (v := (-2)) 13 dX3_write_11 rfl kb_m2 ?_
    refine v_iret dX3_write_13 rfl ?_
    first
      | exact a1 (Or.inl ‹_›)
      | exact a1 (Or.inr ‹_›)
  · refine li_2_1 5 dX3_write_4 rfl ?_
    refine v_sipush (v := 255) 8 dX3_write_5 rfl ks_255 ?_
    refine v_icmp_le 14 11 dX3_write_8 rfl rfl (fun h8 => ?_) (fun h8 => ?_)
    · refine la_2_0 15 dX3_write_14 rfl ?_
      refine vg_X3_58 rfl 18 dX3_write_15 rfl ?_
      rw [hS.2.1.1]
      refine v_bipush (v := 48) 20 dX3_write_18 rfl kb_48 ?_
      refine v_icmp_lt 26 23 dX3_write_20 rfl rfl (fun h20 => ?_) (fun h20 => ?_)
      · have g : T.1 < 48 := (nI_ltI (b := 48) (by omega) (by omega)).mp h20
        refine la_2_0 27 dX3_write_26 rfl ?_
        refine vg_X3_9 rfl 30 dX3_write_27 rfl ?_
        refine la_2_0 31 dX3_write_30 rfl ?_
        refine vg_X3_58 rfl 34 dX3_write_31 rfl ?_
        refine li_2_1 35 dX3_write_34 rfl ?_
        refine vw_X3_text T.1 36 dX3_write_35 rfl hS.2.1.1 g ?_
        refine la_2_0 37 dX3_write_36 rfl ?_
        refine v_dup 38 dX3_write_37 rfl rfl ?_
        refine vg_X3_58 rfl 41 dX3_write_38 rfl ?_
        refine v_iconst (v := 1) 42 dX3_write_41 rfl ki_1 ?_
        refine v_iadd 43 dX3_write_42 rfl ?_
        refine vs_X3_58 rfl 46 dX3_write_43 rfl ?_
        skip
        refine la_2_0 47 dX3_write_46 rfl ?_
        refine vg_X3_58 rfl 50 dX3_write_47 rfl ?_
        refine v_iret dX3_write_50 rfl ?_
        have e : (w.1 0 + 1 : Int32) = nI (T.1 + 1) := by rw [hS.2.1.1]; exact nI_1 _
        show Q (some (.int (w.1 0 + 1))) _
        rw [e]
        refine a3 ‹_› ‹_› g _ ⟨(hS.1.oT hb0 (by decide)).oS (by decide), ⟨?_, g, fun i hi => ?_⟩, hS.2.2.1, hS.2.2.2.1, hS.2.2.2.2.1, hS.2.2.2.2.2.1, hS.2.2.2.2.2.2⟩ ((FrC.oA (by decide)).tr (FrC.oI (by decide)))
        · exact e
        · have hi' : i < T.1 + 1 := hi
          show upd (w.2.2 25) T.1 c i = if i = T.1 then c else T.2 i
          simp only [upd]
          by_cases q : i = T.1
          · rw [if_pos q, if_pos q]
          · rw [if_neg q, if_neg q]; exact hS.2.1.2.2 i (by omega)
      · have g2 : ¬ T.1 < 48 := fun z => h20 ((nI_ltI (b := 48) (by omega) (by omega)).mpr z)
        have g : T.1 = 48 := by omega
        refine v_bipush (v := (-4)) 25 dX3_write_23 rfl kb_m4 ?_
        refine v_iret dX3_write_25 rfl ?_
        exact a2 ‹_› ‹_› g
    · refine v_bipush (v := (-2)) 13 dX3_write_11 rfl kb_m2 ?_
      refine v_iret dX3_write_13 rfl ?_
      first
        | exact a1 (Or.inl ‹_›)
        | exact a1 (Or.inr ‹_›)
set_option maxHeartbeats 4000000 in
set_option maxRecDepth 100000 in
theorem c_X3_week {w : Wd} {P : PT} {T : TT} {A : AT} {U : Nat → Bool} {K : Nat → PT} {N : NT} {z : Int64} (hS : cS w P T A U K N z) (hz : P.1.2.2.2 = 0 ∨ P.1.2.2.2 = 1) {Q : Option Value → Wd → Prop} (hQ : ∀ u, cS u (passP P) T (pushA A P) U K N z → FrC w u → Q (some (.int (bcF (aliveP (passP P))))) u) : V mX3_week 0 [some (.ref 0)] [] w Q := by
  refine la_1_0 1 dX3_week_0 rfl ?_
  refine v_cVN0 4 dX3_week_1 rfl fvX3_remember fiX3_remember ml_X3_126 (seX3) rfl ⟨(Nat.le_of_ble_eq_true rfl), (Nat.le_of_ble_eq_true rfl)⟩ (Nat.le_of_ble_eq_true rfl) (Nat.le_of_ble_eq_true rfl) (c_X3_remember hS hz (fun u1 hS1 G1 => ⟨rfl, ?_⟩)) rfl
  refine la_1_0 5 dX3_week_4 rfl ?_
  refine vg_X3_23 rfl 8 dX3_week_5 rfl ?_
  refine v_cVN0 11 dX3_week_8 rfl fvX1_passWeek fiX1_passWeek ml_X3_129 (seX1 hb0) rfl ⟨(Nat.le_of_ble_eq_true rfl), (Nat.le_of_ble_eq_true rfl)⟩ (Nat.le_of_ble_eq_true rfl) (Nat.le_of_ble_eq_true rfl) (c_X1_passWeek hb0 hS1.1 (fun u1 hC1 hF1 => ⟨rfl, ?_⟩)) rfl
  refine la_1_0 12 dX3_week_11 rfl ?_
  refine vg_X3_23 rfl 15 dX3_week_12 rfl ?_
  refine v_cVI0 18 dX3_week_15 rfl fvX1_aliveBits fiX1_aliveBits ml_X3_132 (seX1 hb0) rfl ⟨(Nat.le_of_ble_eq_true rfl), (Nat.le_of_ble_eq_true rfl)⟩ (Nat.le_of_ble_eq_true rfl) (Nat.le_of_ble_eq_true rfl) (c_X1_aliveBits hb0 hC1 ⟨_, rfl, ?_⟩) rfl
  refine v_cSI1 21 dX3_week_18 rfl fvJ6_bitCount_0f7a4 fsJ6_bitCount_0f7a4 ml_X3_136 ⟨(Nat.le_of_ble_eq_true rfl), (Nat.le_of_ble_eq_true rfl)⟩ (Nat.le_of_ble_eq_true rfl) (Nat.le_of_ble_eq_true rfl) (c_bitCount ⟨_, rfl, ?_⟩) rfl
  refine v_iret dX3_week_21 rfl ?_
  exact hQ _ (hS1.fr0 hC1 hF1) (G1.tr (hF1.C hb0))
set_option maxHeartbeats 4000000 in
set_option maxRecDepth 100000 in
theorem c_X3_damp {w : Wd} {P : PT} {T : TT} {A : AT} {U : Nat → Bool} {K : Nat → PT} {N : NT} {z : Int64} (hS : cS w P T A U K N z) (hz : P.1.2.2.2 = 0 ∨ P.1.2.2.2 = 1) {Q : Option Value → Wd → Prop} (hQ : ∀ u, cS u (dampP P (if P.1.2.2.2 = 0 then 1 else 0)) T (pushA A P) U K N z → FrC w u → Q (some (.int (if P.1.2.2.2 = 0 then 1 else 0))) u) : V mX3_damp 0 [some (.ref 0)] [] w Q := by
  refine la_1_0 1 dX3_damp_0 rfl ?_
  refine v_cVN0 4 dX3_damp_1 rfl fvX3_remember fiX3_remember ml_X3_126 (seX3) rfl ⟨(Nat.le_of_ble_eq_true rfl), (Nat.le_of_ble_eq_true rfl)⟩ (Nat.le_of_ble_eq_true rfl) (Nat.le_of_ble_eq_true rfl) (c_X3_remember hS hz (fun u1 hS1 G1 => ⟨rfl, ?_⟩)) rfl
  refine la_1_0 5 dX3_damp_4 rfl ?_
  refine vg_X3_23 rfl 8 dX3_damp_5 rfl ?_
  refine la_1_0 9 dX3_damp_8 rfl ?_
  refine vg_X3_23 rfl 12 dX3_damp_9 rfl ?_
  refine vgq_X3_161 hb0 hS1.1 rfl 15 dX3_damp_12 rfl ?_
  refine v_if_ne 22 18 dX3_damp_15 rfl rfl (fun h15 => ?_) (fun h15 => ?_)
  · rw [if_neg h15] at hQ
    refine v_iconst (v := 0) 23 dX3_damp_22 rfl ki_0 ?_
    refine vs_X3_161 hb0 rfl 26 dX3_damp_23 rfl (Or.inl rfl) ?_
    skip
    refine la_1_0 27 dX3_damp_26 rfl ?_
    refine vg_X3_23 rfl 30 dX3_damp_27 rfl ?_
    refine vgq_X3_161 hb0 (hS1.1).damp rfl 33 dX3_damp_30 rfl ?_
    refine v_if_eq 40 36 dX3_damp_33 rfl rfl (fun h33 => ?_) (fun h33 => ?_)
    · refine v_iconst (v := 0) 41 dX3_damp_40 rfl ki_0 ?_
      refine v_iret dX3_damp_41 rfl ?_
      first
        | exact hQ _ (hS1.fr0 hS1.1.damp (Fr.oI (by decide))) (G1.tr ((Fr.oI (by decide)).C hb0))
        | exact absurd rfl h33
        | exact absurd (show (1 : Int32) = 0 from h33) (by decide)
    · refine v_iconst (v := 1) 37 dX3_damp_36 rfl ki_1 ?_
      refine v_goto 41 dX3_damp_37 rfl ?_
      refine v_iret dX3_damp_41 rfl ?_
      first
        | exact hQ _ (hS1.fr0 hS1.1.damp (Fr.oI (by decide))) (G1.tr ((Fr.oI (by decide)).C hb0))
        | exact absurd rfl h33
        | exact absurd (show (1 : Int32) = 0 from h33) (by decide)
  · rw [if_pos h15] at hQ
    refine v_iconst (v := 1) 19 dX3_damp_18 rfl ki_1 ?_
    refine v_goto 23 dX3_damp_19 rfl ?_
    refine vs_X3_161 hb0 rfl 26 dX3_damp_23 rfl (Or.inr rfl) ?_
    skip
    refine la_1_0 27 dX3_damp_26 rfl ?_
    refine vg_X3_23 rfl 30 dX3_damp_27 rfl ?_
    refine vgq_X3_161 hb0 (hS1.1).damp rfl 33 dX3_damp_30 rfl ?_
    refine v_if_eq 40 36 dX3_damp_33 rfl rfl (fun h33 => ?_) (fun h33 => ?_)
    · refine v_iconst (v := 0) 41 dX3_damp_40 rfl ki_0 ?_
      refine v_iret dX3_damp_41 rfl ?_
      first
        | exact hQ _ (hS1.fr0 hS1.1.damp (Fr.oI (by decide))) (G1.tr ((Fr.oI (by decide)).C hb0))
        | exact absurd rfl h33
        | exact absurd (show (1 : Int32) = 0 from h33) (by decide)
    · refine v_iconst (v := 1) 37 dX3_damp_36 rfl ki_1 ?_
      refine v_goto 41 dX3_damp_37 rfl ?_
      refine v_iret dX3_damp_41 rfl ?_
      first
        | exact hQ _ (hS1.fr0 hS1.1.damp (Fr.oI (by decide))) (G1.tr ((Fr.oI (by decide)).C hb0))
        | exact absurd rfl h33
        | exact absurd (show (1 : Int32) = 0 from h33) (by decide)

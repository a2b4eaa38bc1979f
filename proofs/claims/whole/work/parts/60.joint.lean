/-- a class's change leaves the reference, and the other way round -/
theorem mS.frC {w u : Wd} {P : PT} {T : TT} {A : AT} {U : Nat → Bool} {K : Nat → PT} {N : NT} {z : Int64} (h : mS w P T A U K N z) (hF : FrC w u) : mS u P T A U K N z :=
  ⟨h.1.mv (hF.1 16 (by omega)) (hF.1 17 (by omega)) (fun r h1 _ => hF.2.2 r h1), h.2.mv (fun j hj => hF.1 j (by omega)) hF.2.1 (fun r hr => hF.2.2 r (by omega))⟩
theorem cS.frK {w u : Wd} {P : PT} {T : TT} {A : AT} {U : Nat → Bool} {K : Nat → PT} {N : NT} {z : Int64} (h : cS w P T A U K N z) (hF : FrK w u) : cS u P T A U K N z :=
  ⟨h.1.mv (fun j hj => hF.1 _ (by unfold pj; omega)) (fun j hj => hF.2.2 _ (by unfold ar; omega)), h.2.mv (fun j hj => hF.1 j (by omega)) hF.2.1 (fun r _ h2 => hF.2.2 r (by omega))⟩
/-- what holds of the numbers behind c calls -/
def JS (c : Nat) (P : PT) (A : AT) (U : Nat → Bool) (K : Nat → PT) (N : NT) : Prop := okP c P ∧ (∀ i, i < A.1 → sameK P (A.2 i) ∧ okP c (A.2 i)) ∧ (∀ i, i < 2 → U i = true → sameK P (K i) ∧ okP c (K i)) ∧ ∀ j, j < N.1 → N.2.1 j < 1000
def JW (c : Nat) (w : Wd) : Prop := ∃ P T A U K N z, cS w P T A U K N z ∧ mS w P T A U K N z ∧ JS c P A U K N
theorem sameK.rf {P : PT} : sameK P P := ⟨rfl, rfl, fun _ _ => rfl, fun _ _ => rfl⟩
theorem sameK.sy {P R : PT} (h : sameK P R) : sameK R P := ⟨h.1.symm, h.2.1.symm, fun s hs => (h.2.2.1 s (by rw [h.1]; exact hs)).symm, fun s hs => (h.2.2.2 s (by rw [h.2.1]; exact hs)).symm⟩
theorem sameK.tr {P R S : PT} (h : sameK P R) (k : sameK R S) : sameK P S := ⟨h.1.trans k.1, h.2.1.trans k.2.1, fun s hs => (h.2.2.1 s hs).trans (k.2.2.1 s (by rw [← h.1]; exact hs)), fun s hs => (h.2.2.2 s hs).trans (k.2.2.2 s (by rw [← h.2.1]; exact hs))⟩
theorem sameK.pass {P : PT} : sameK P (passP P) := ⟨rfl, rfl, fun s _ => (pass_row (by decide) (by decide) (by decide)).symm, fun s _ => (pass_row (by decide) (by decide) (by decide)).symm⟩
theorem sameK.stick {P : PT} {k : Nat} {l : Int32} : sameK P (stickP P k l) := ⟨rfl, rfl, fun s _ => by simp [stickP, setP], fun s _ => by simp [stickP, setP]⟩
theorem sameK.send {P : PT} {k : Nat} : sameK P (sendP P k) := ⟨rfl, rfl, fun s _ => by simp [sendP, setP], fun s _ => by simp [sendP, setP]⟩
theorem sameK.part {P : PT} {k m : Nat} : sameK P (partP P k m) := ⟨rfl, rfl, fun s _ => by simp [partP, part1, growP, growI, setP], fun s _ => by simp [partP, part1, growP, growI, setP]⟩
theorem sameK.damp {P : PT} {x : Int32} : sameK P (dampP P x) := ⟨rfl, rfl, fun _ _ => rfl, fun _ _ => rfl⟩
theorem push_all {q : PT → Prop} {A : AT} {P : PT} (hP : q P) (hA : ∀ i, i < A.1 → q (A.2 i)) : ∀ i, i < (pushA A P).1 → q ((pushA A P).2 i) := by
  intro i hi
  unfold pushA at hi ⊢
  by_cases h : A.1 < 14
  · rw [if_pos h] at hi ⊢
    have hi' : i < A.1 + 1 := hi
    show q (if i = A.1 then P else A.2 i)
    by_cases e : i = A.1
    · rw [if_pos e]; exact hP
    · rw [if_neg e]; exact hA i (by omega)
  · rw [if_neg h] at hi ⊢
    have hi' : i < 14 := hi
    show q (if i < 13 then A.2 (i + 1) else P)
    by_cases e : i < 13
    · rw [if_pos e]; exact hA _ (by omega)
    · rw [if_neg e]; exact hP
theorem JS.up {c : Nat} {P : PT} {A : AT} {U : Nat → Bool} {K : Nat → PT} {N : NT} (h : JS c P A U K N) : JS (c + 1) P A U K N :=
  ⟨h.1.up (Nat.le_succ c), fun i hi => ⟨(h.2.1 i hi).1, (h.2.1 i hi).2.up (Nat.le_succ c)⟩, fun i hi hu => ⟨(h.2.2.1 i hi hu).1, (h.2.2.1 i hi hu).2.up (Nat.le_succ c)⟩, h.2.2.2⟩
theorem JS.act {c : Nat} {P R : PT} {A : AT} {U : Nat → Bool} {K : Nat → PT} {N : NT} (h : JS c P A U K N) (hk : sameK P R) (ho : okP (c + 1) R) : JS (c + 1) R (pushA A P) U K N := by
  have g := h.up
  exact ⟨ho, push_all (q := fun E => sameK R E ∧ okP (c + 1) E) ⟨hk.sy, g.1⟩ (fun i hi => ⟨hk.sy.tr (g.2.1 i hi).1, (g.2.1 i hi).2⟩), fun i hi hu => ⟨hk.sy.tr (g.2.2.1 i hi hu).1, (g.2.2.1 i hi hu).2⟩, g.2.2.2⟩
section JX
variable {c : Nat} {P : PT} {A : AT} {U : Nat → Bool} {K : Nat → PT} {N : NT}
theorem JS.hz (h : JS c P A U K N) : P.1.2.2.2 = 0 ∨ P.1.2.2.2 = 1 := h.1.2.2.1.1
theorem JS.hh (h : JS c P A U K N) : ∀ k, k < P.1.1 → ∃ a, a ≤ 9 ∧ P.2 1 k = nI a := h.1.2.2.1.2.1
theorem JS.hkd (h : JS c P A U K N) : ∀ s, s < P.1.1 → P.2 2 s = 0 ∨ P.2 2 s = 1 ∨ P.2 2 s = 2 ∨ P.2 2 s = 3 := h.1.2.2.1.2.2
theorem JS.hq (h : JS c P A U K N) : ∀ m, m < P.1.2.1 → ∃ q, q < 1000 ∧ P.2 5 m = nI q := fun m hm => by
  obtain ⟨q, h1, h2, -⟩ := h.1.2.2.2.2.2 m hm
  exact ⟨q, h1, h2⟩
theorem JS.hJ (h : JS c P A U K N) : ∀ k, k < P.1.1 → ∃ q, q < 32 ∧ P.2 3 k = nI q := fun k hk => by
  obtain ⟨q, h1, h2⟩ := (h.1.2.2.2.1 k hk).1
  have hp : 2 ^ P.1.1 ≤ 2 ^ 5 := Nat.pow_le_pow_right (by decide) h.1.1
  exact ⟨q, by omega, h2⟩
theorem JS.hag (h : JS c P A U K N) (hc : c ≤ 1000) : ∀ s, s < P.1.1 → ∃ a, a < 100000 ∧ P.2 0 s = nI a := fun s hs => by
  obtain ⟨a, h1, h2⟩ := h.1.2.2.2.2.1 s hs
  exact ⟨a, by omega, h2⟩
theorem JS.hA (h : JS c P A U K N) : ∀ i, i < A.1 → sameK P (A.2 i) ∧ ((A.2 i).1.2.2.2 = 0 ∨ (A.2 i).1.2.2.2 = 1) := fun i hi => ⟨(h.2.1 i hi).1, (h.2.1 i hi).2.2.2.1.1⟩
theorem JS.hU (h : JS c P A U K N) : ∀ i, i < 2 → U i = true → sameK P (K i) ∧ ((K i).1.2.2.2 = 0 ∨ (K i).1.2.2.2 = 1) := fun i hi hu => ⟨(h.2.2.1 i hi hu).1, (h.2.2.1 i hi hu).2.2.2.1.1⟩
end JX
/-- a call of the class, then the same of the reference: one answer, and all is well behind both -/
def TwoI (m3 : MD) (l3 : LsT) (m4 : MD) (l4 : LsT) (c : Nat) (w : Wd) : Prop := V m3 0 l3 [] w (fun a u => ∃ r : Int32, a = some (.int r) ∧ V m4 0 l4 [] u (fun b v => b = some (.int r) ∧ JW c v))
def TwoL (m3 : MD) (l3 : LsT) (m4 : MD) (l4 : LsT) (c : Nat) (w : Wd) : Prop := V m3 0 l3 [] w (fun a u => ∃ r : Int64, a = some (.long r) ∧ V m4 0 l4 [] u (fun b v => b = some (.long r) ∧ JW c v))
theorem JW.mk {c : Nat} {w u : Wd} {P : PT} {T : TT} {A : AT} {U : Nat → Bool} {K : Nat → PT} {N : NT} {z : Int64} (hc : cS w P T A U K N z) (hF : FrK w u) (hm : mS u P T A U K N z) (h : JS c P A U K N) : JW c u := ⟨P, T, A, U, K, N, z, hc.frK hF, hm, h⟩
theorem stick_cases {P : PT} {A : AT} {i l : Int32} : ((stickF P A i l).2 = (P, A)) ∨ ∃ k, (stickF P A i l).2 = (stickP P k l, pushA A P) := by
  unfold stickF
  by_cases h : ¬ (inQ i P.1.1 ∧ inQ l P.1.2.1)
  · rw [ifP_pos h]; exact Or.inl rfl
  · rw [ifP_neg h]
    by_cases h2 : ¬ stickQ P i l
    · rw [ifP_pos h2]; exact Or.inl rfl
    · rw [ifP_neg h2]; exact Or.inr ⟨_, rfl⟩
theorem send_cases {P : PT} {A : AT} {l : Int32} (h4 : P.1.2.1 ≤ 4) : ((sendF P A l).2 = (P, A)) ∨ ∃ k, P.2 7 k = 0 ∧ (sendF P A l).2 = (sendP P k, pushA A P) := by
  unfold sendF
  by_cases h : ¬ inQ l P.1.2.1
  · rw [ifP_pos h]; exact Or.inl rfl
  · rw [ifP_neg h]
    by_cases h2 : ¬ sendQ P l
    · rw [ifP_pos h2]; exact Or.inl rfl
    · rw [ifP_neg h2]
      obtain ⟨m, hm, e, h0, -⟩ := Classical.not_not.mp h2
      exact Or.inr ⟨m, h0, by rw [e, kk_nI (by omega)]⟩
theorem part_cases {P : PT} {A : AT} {i j : Int32} (h5 : P.1.1 ≤ 5) : ((partF P A i j).2 = (P, A)) ∨ ∃ k m, k < P.1.1 ∧ m < P.1.1 ∧ bit (P.2 3 k) m = true ∧ (partF P A i j).2 = (partP P k m, pushA A P) := by
  unfold partF
  by_cases h : ¬ (inQ i P.1.1 ∧ inQ j P.1.1)
  · rw [ifP_pos h]; exact Or.inl rfl
  · rw [ifP_neg h]
    by_cases h2 : ¬ joinedQ P i j
    · rw [ifP_pos h2]; exact Or.inl rfl
    · rw [ifP_neg h2]
      obtain ⟨k, m, hk, hm, e1, e2, hb⟩ := Classical.not_not.mp h2
      exact Or.inr ⟨k, m, hk, hm, hb, by rw [e1, e2, kk_nI (by omega), kk_nI (by omega)]⟩
theorem txt9 {x : Nat → Int32} {n : Nat} {s : RT} (hn : n ≤ 48) (h : textR x n (-9) s) : reachR x n s := by
  rcases h with ⟨i, hi, -, -, e⟩ | ⟨-, -, e⟩ | ⟨h, -, -⟩
  · exact absurd e.symm (nm9 (by omega))
  · exact absurd e.symm (nm9 (by omega))
  · exact h
section JC
variable {c : Nat} {w : Wd}
theorem j_write (h : JW c w) {x : Int32} : TwoI mX3_write [some (.ref 0), some (.int x)] mX4_write [some (.ref 1), some (.int x)] (c + 1) w := by
  obtain ⟨P, T, A, U, K, N, z, hC, hM, hJ⟩ := h
  refine c_X3_write hC (fun q => ⟨_, rfl, c_X4_write hM (fun v hv hF => ?_)⟩) (fun q1 q2 q3 => ⟨_, rfl, c_X4_write hM (fun v hv hF => ?_)⟩) (fun q1 q2 q3 u hu hG => ⟨_, rfl, c_X4_write (hM.frC hG) (fun v hv hF => ?_)⟩)
  · rw [show writeF T x = (-2, T) from ifP_pos q] at hv ⊢
    exact ⟨rfl, JW.mk hC hF hv hJ.up⟩
  · rw [show writeF T x = (-4, T) from (ifP_neg (fun k => k.elim q1 (fun k => k q2))).trans (ifP_pos q3)] at hv ⊢
    exact ⟨rfl, JW.mk hC hF hv hJ.up⟩
  · rw [show writeF T x = (nI (T.1 + 1), (T.1 + 1, fun i => if i = T.1 then x else T.2 i)) from (ifP_neg (fun k => k.elim q1 (fun k => k q2))).trans (ifP_neg (by omega))] at hv ⊢
    exact ⟨rfl, JW.mk hu hF hv hJ.up⟩
theorem j_wipe (h : JW c w) : TwoI mX3_wipe [some (.ref 0), none] mX4_wipe [some (.ref 1), none] (c + 1) w := by
  obtain ⟨P, T, A, U, K, N, z, hC, hM, hJ⟩ := h
  exact c_X3_wipe hC (fun u hu hG => ⟨_, rfl, c_X4_wipe (hM.frC hG) (fun v hv hF => ⟨rfl, JW.mk hu hF hv hJ.up⟩)⟩)
theorem j_fault (h : JW c w) : TwoI mX3_fault [some (.ref 0)] mX4_fault [some (.ref 1)] (c + 1) w := by
  obtain ⟨P, T, A, U, K, N, z, hC, hM, hJ⟩ := h
  exact c_X3_fault hC (fun r s u ht hu hG => ⟨r, rfl, c_X4_fault (hM.frC hG) (fun r2 s2 v ht2 hv hF => ⟨by rw [(text_det ht ht2).1], JW.mk hu hF hv hJ.up⟩)⟩)
theorem j_album (h : JW c w) : TwoI mX3_album [some (.ref 0), none] mX4_album [some (.ref 1), none] (c + 1) w := by
  obtain ⟨P, T, A, U, K, N, z, hC, hM, hJ⟩ := h
  have h48 : T.1 ≤ 48 := hC.2.1.2.1
  refine c_X3_album hC (fun i s hs => (reach_dr hs).dr.2.2.1) (fun r s u ht hr hu hG => ⟨_, rfl, ?_⟩) (fun s u ht hu hG => ⟨_, rfl, ?_⟩)
  · exact c_X4_album (hM.frC hG) (fun r2 s2 v ht2 hr2 hv hF => ⟨rfl, JW.mk hu hF hv hJ.up⟩) (fun s2 v ht2 hv hF => absurd (text_det ht ht2).1 hr)
  · refine c_X4_album (hM.frC hG) (fun r2 s2 v ht2 hr2 hv hF => absurd (text_det ht ht2).1.symm hr2) (fun s2 v ht2 hv hF => ?_)
    have e := (text_det ht ht2).2
    subst e
    have hd := (reach_dr (txt9 h48 ht)).dr.1
    exact ⟨rfl, JW.mk hu hF hv ⟨hd.up (Nat.zero_le _), fun i hi => absurd hi (Nat.not_lt_zero i), fun i _ k => (Bool.noConfusion k), hJ.2.2.2⟩⟩
theorem j_stamp (h : JW c w) {i x : Int32} : TwoI mX3_stamp [some (.ref 0), some (.int i), some (.int x)] mX4_stamp [some (.ref 1), some (.int i), some (.int x)] (c + 1) w := by
  obtain ⟨P, T, A, U, K, N, z, hC, hM, hJ⟩ := h
  exact c_X3_stamp hC ⟨_, rfl, c_X4_stamp hM hJ.hkd ⟨rfl, JW.mk hC FrK.rf hM hJ.up⟩⟩
theorem j_letter (h : JW c w) {i x : Int32} : TwoI mX3_letter [some (.ref 0), some (.int i), some (.int x)] mX4_letter [some (.ref 1), some (.int i), some (.int x)] (c + 1) w := by
  obtain ⟨P, T, A, U, K, N, z, hC, hM, hJ⟩ := h
  exact c_X3_letter hC ⟨_, rfl, c_X4_letter hM hJ.hkd ⟨rfl, JW.mk hC FrK.rf hM hJ.up⟩⟩
theorem j_week (h : JW c w) : TwoI mX3_week [some (.ref 0)] mX4_week [some (.ref 1)] (c + 1) w := by
  obtain ⟨P, T, A, U, K, N, z, hC, hM, hJ⟩ := h
  exact c_X3_week hC hJ.hz (fun u hu hG => ⟨_, rfl, c_X4_week (hM.frC hG) hJ.hz (fun v hv hF => ⟨by rw [show onI (aliveP (passP P)) 5 = bcF (aliveP (passP P)) from ones_or _ hJ.1.1], JW.mk hu hF hv (hJ.act sameK.pass (okP_pass hJ.1))⟩)⟩)
theorem j_stick (h : JW c w) {i l : Int32} : TwoI mX3_stick [some (.ref 0), some (.int i), some (.int l)] mX4_stick [some (.ref 1), some (.int i), some (.int l)] (c + 1) w := by
  obtain ⟨P, T, A, U, K, N, z, hC, hM, hJ⟩ := h
  refine c_X3_stick hC hJ.hz (fun u hu hG => ⟨_, rfl, c_X4_stick (hM.frC hG) hJ.hh (fun v hv hF => ⟨rfl, JW.mk hu hF hv ?_⟩)⟩)
  rcases stick_cases (P := P) (A := A) (i := i) (l := l) with e | ⟨k, e⟩
  · rw [e]; exact hJ.up
  · rw [e]; exact hJ.act sameK.stick ((okP_stick hJ.1 k l).up (Nat.le_succ c))
theorem j_send (h : JW c w) {l : Int32} : TwoI mX3_send [some (.ref 0), some (.int l)] mX4_send [some (.ref 1), some (.int l)] (c + 1) w := by
  obtain ⟨P, T, A, U, K, N, z, hC, hM, hJ⟩ := h
  refine c_X3_send hC hJ.hz (fun u hu hG => ⟨_, rfl, c_X4_send (hM.frC hG) hJ.hkd (fun v hv hF => ⟨rfl, JW.mk hu hF hv ?_⟩)⟩)
  rcases send_cases (P := P) (A := A) (l := l) hJ.1.2.1 with e | ⟨k, h0, e⟩
  · rw [e]; exact hJ.up
  · rw [e]; exact hJ.act sameK.send ((okP_send hJ.1 h0).up (Nat.le_succ c))
theorem j_part (h : JW c w) {i j : Int32} : TwoI mX3_part [some (.ref 0), some (.int i), some (.int j)] mX4_part [some (.ref 1), some (.int i), some (.int j)] (c + 1) w := by
  obtain ⟨P, T, A, U, K, N, z, hC, hM, hJ⟩ := h
  refine c_X3_part hC hJ.hz (fun u hu hG => ⟨_, rfl, c_X4_part (hM.frC hG) hJ.hJ (fun v hv hF => ⟨rfl, JW.mk hu hF hv ?_⟩)⟩)
  rcases part_cases (P := P) (A := A) (i := i) (j := j) hJ.1.1 with e | ⟨k, m, hk, hm, hb, e⟩
  · rw [e]; exact hJ.up
  · rw [e]; exact hJ.act sameK.part (okP_part hJ.1 hk hm hb)
theorem j_damp (h : JW c w) : TwoI mX3_damp [some (.ref 0)] mX4_damp [some (.ref 1)] (c + 1) w := by
  obtain ⟨P, T, A, U, K, N, z, hC, hM, hJ⟩ := h
  refine c_X3_damp hC hJ.hz (fun u hu hG => ⟨_, rfl, c_X4_damp (hM.frC hG) hJ.hz (fun v hv hF => ⟨rfl, JW.mk hu hF hv (hJ.act sameK.damp ((okP_damp hJ.1 ?_).up (Nat.le_succ c)))⟩)⟩)
  by_cases e : P.1.2.2.2 = 0
  · rw [if_pos e]; exact Or.inr rfl
  · rw [if_neg e]; exact Or.inl rfl
theorem j_undo (h : JW c w) : TwoI mX3_undo [some (.ref 0)] mX4_undo [some (.ref 1), none] (c + 1) w := by
  obtain ⟨P, T, A, U, K, N, z, hC, hM, hJ⟩ := h
  refine c_X3_undo hC hJ.hA (fun u hu hG => ⟨_, rfl, c_X4_undo (hM.frC hG) (fun i hi => (hJ.hA i hi).1) (fun v hv hF => ⟨rfl, JW.mk hu hF hv ?_⟩)⟩)
  unfold undoF
  by_cases e : A.1 = 0
  · rw [if_pos e]; exact hJ.up
  · rw [if_neg e]
    have g := hJ.up
    obtain ⟨k1, k2⟩ := g.2.1 (A.1 - 1) (by omega)
    exact ⟨k2, fun i hi => ⟨k1.sy.tr (g.2.1 i (Nat.lt_of_lt_of_le hi (Nat.sub_le _ _))).1, (g.2.1 i (Nat.lt_of_lt_of_le hi (Nat.sub_le _ _))).2⟩, fun i hi hu => ⟨k1.sy.tr (g.2.2.1 i hi hu).1, (g.2.2.1 i hi hu).2⟩, g.2.2.2⟩
theorem j_lives (h : JW c w) {i : Int32} : TwoI mX3_lives [some (.ref 0), some (.int i), none] mX4_lives [some (.ref 1), some (.int i), none] (c + 1) w := by
  obtain ⟨P, T, A, U, K, N, z, hC, hM, hJ⟩ := h
  exact c_X3_lives hC hJ.hz (fun u hu hG => ⟨_, rfl, c_X4_lives (hM.frC hG) hJ.hz (fun v hv hF => ⟨rfl, JW.mk hu hF hv hJ.up⟩)⟩)
theorem j_comes (h : JW c w) {l x : Int32} : TwoI mX3_comes [some (.ref 0), some (.int l), some (.int x)] mX4_comes [some (.ref 1), some (.int l), some (.int x)] (c + 1) w := by
  obtain ⟨P, T, A, U, K, N, z, hC, hM, hJ⟩ := h
  exact c_X3_comes hC hJ.hz hJ.hq (fun u hu hG => ⟨_, rfl, c_X4_comes (hM.frC hG) hJ.hz hJ.hh hJ.hkd hJ.hq (fun v hv hF => ⟨rfl, JW.mk hu hF hv hJ.up⟩)⟩)
theorem j_fewest (h : JW c w) {l : Int32} : TwoI mX3_fewest [some (.ref 0), some (.int l), none, none, none, none] mX4_fewest [some (.ref 1), some (.int l), none, none, none] (c + 1) w := by
  obtain ⟨P, T, A, U, K, N, z, hC, hM, hJ⟩ := h
  exact c_X3_fewest hC hJ.hz hJ.hq (fun r u hr hu hG => ⟨r, rfl, c_X4_fewest (hM.frC hG) hJ.hz hJ.hh hJ.hkd hJ.hq (fun r2 v hr2 hv hF => ⟨by rw [fewest_det hJ.1.2.1 hr2 hr], JW.mk hu hF hv hJ.up⟩)⟩)
theorem j_block (h : JW c w) {i : Int32} : TwoI mX3_block [some (.ref 0), some (.int i), none, none] mX4_block [some (.ref 1), some (.int i), none, none, none] (c + 1) w := by
  obtain ⟨P, T, A, U, K, N, z, hC, hM, hJ⟩ := h
  exact c_X3_block hC ⟨_, rfl, c_X4_block hM hJ.1.2.2.2.1 ⟨rfl, JW.mk hC FrK.rf hM hJ.up⟩⟩
theorem j_judge (h : JW c w) {m : Int32} {x : Int64} : TwoI mX3_judge [some (.ref 0), some (.int m), some (.long x), none, none, none, none] mX4_judge [some (.ref 1), some (.int m), some (.long x), none, none, none] (c + 1) w := by
  obtain ⟨P, T, A, U, K, N, z, hC, hM, hJ⟩ := h
  exact c_X3_judge hC hJ.hz (fun u hu hG => ⟨_, rfl, c_X4_judge (hM.frC hG) hJ.1.2.2.1 (fun v hv hF => ⟨rfl, JW.mk hu hF hv hJ.up⟩)⟩)
theorem j_see (h : JW c w) {i k a : Int32} : TwoI mX3_see [some (.ref 0), some (.int i), some (.int k), some (.int a)] mX4_see [some (.ref 1), some (.int i), some (.int k), some (.int a)] (c + 1) w := by
  obtain ⟨P, T, A, U, K, N, z, hC, hM, hJ⟩ := h
  refine c_X3_see hC (fun u hu hG => ⟨_, rfl, c_X4_see (hM.frC hG) (fun v hv hF => ⟨rfl, JW.mk hu hF hv ?_⟩)⟩)
  have g := hJ.up
  unfold seeF
  by_cases h1 : ¬ inQ i P.1.1
  · rw [ifP_pos h1]; exact g
  · rw [ifP_neg h1]
    by_cases h2 : ¬ (inQ k 100 ∧ inQ a 2)
    · rw [ifP_pos h2]; exact g
    · rw [ifP_neg h2]
      by_cases h3 : N.1 = 6
      · rw [ifP_pos h3]; exact g
      · rw [ifP_neg h3]
        refine ⟨g.1, g.2.1, g.2.2.1, fun j hj => ?_⟩
        have hj' : j < N.1 + 1 := hj
        show (if j = N.1 then kk i else N.2.1 j) < 1000
        by_cases e : j = N.1
        · rw [if_pos e]
          obtain ⟨b, hb, e2⟩ := Classical.not_not.mp h1
          have := g.1.1
          rw [e2, kk_nI (by omega)]; omega
        · rw [if_neg e]; exact g.2.2.2 j (by omega)
theorem j_unsee (h : JW c w) : TwoI mX3_unsee [some (.ref 0), none] mX4_unsee [some (.ref 1), none] (c + 1) w := by
  obtain ⟨P, T, A, U, K, N, z, hC, hM, hJ⟩ := h
  have g := hJ.up
  exact c_X3_unsee hC (fun u hu hG => ⟨_, rfl, c_X4_unsee (hM.frC hG) (fun v hv hF => ⟨rfl, JW.mk hu hF hv ⟨g.1, g.2.1, g.2.2.1, fun j hj => absurd hj (Nat.not_lt_zero j)⟩⟩)⟩)
theorem j_bought (h : JW c w) {i : Int32} : TwoI mX3_bought [some (.ref 0), some (.int i), none, none] mX4_bought [some (.ref 1), some (.int i), none, none, none, none, none] (c + 1) w := by
  obtain ⟨P, T, A, U, K, N, z, hC, hM, hJ⟩ := h
  exact c_X3_bought hC hJ.2.2.2 ⟨_, rfl, c_X4_bought hM hJ.2.2.2 ⟨rfl, JW.mk hC FrK.rf hM hJ.up⟩⟩
theorem j_share (h : JW c w) (hc : c ≤ 1000) {i t : Int32} : TwoI mX3_share [some (.ref 0), some (.int i), some (.int t), none, none, none, none, none, none, none] mX4_share [some (.ref 1), some (.int i), some (.int t), none, none, none] (c + 1) w := by
  obtain ⟨P, T, A, U, K, N, z, hC, hM, hJ⟩ := h
  exact c_X3_share hC (hJ.hag hc) ⟨_, rfl, c_X4_share hM hJ.hkd (hJ.hag hc) ⟨rfl, JW.mk hC FrK.rf hM hJ.up⟩⟩
theorem j_rests (h : JW c w) {i j s x : Int32} : TwoI mX3_rests [some (.ref 0), some (.int i), some (.int j), some (.int s), some (.int x), none, none, none, none, none, none, none] mX4_rests [some (.ref 1), some (.int i), some (.int j), some (.int s), some (.int x), none, none, none] (c + 1) w := by
  obtain ⟨P, T, A, U, K, N, z, hC, hM, hJ⟩ := h
  exact c_X3_rests hC ⟨_, rfl, c_X4_rests hM hJ.hkd ⟨rfl, JW.mk hC FrK.rf hM hJ.up⟩⟩
theorem j_born (h : JW c w) {m x t : Int32} : TwoI mX3_born [some (.ref 0), some (.int m), some (.int x), some (.int t), none, none, none] mX4_born [some (.ref 1), some (.int m), some (.int x), some (.int t), none, none, none, none, none, none] (c + 1) w := by
  obtain ⟨P, T, A, U, K, N, z, hC, hM, hJ⟩ := h
  obtain ⟨p, hp, e1, e2⟩ := pairs_N hJ.1.1 hJ.1.2.2.2.1
  exact c_X3_born hC hp e1 ⟨_, rfl, c_X4_born hM hp e2 ⟨rfl, JW.mk hC FrK.rf hM hJ.up⟩⟩
theorem j_seed (h : JW c w) {x : Int64} : TwoL mX3_seed [some (.ref 0), some (.long x), none, none, none] mX4_seed [some (.ref 1), some (.long x), none, none, none] (c + 1) w := by
  obtain ⟨P, T, A, U, K, N, z, hC, hM, hJ⟩ := h
  exact c_X3_seed hC (fun u hu hG => ⟨_, rfl, c_X4_seed (hM.frC hG) (fun v hv hF => ⟨rfl, JW.mk hu hF hv hJ.up⟩)⟩)
theorem j_years (h : JW c w) {m : Int32} : TwoI mX3_years [some (.ref 0), some (.int m), none, none] mX4_years [some (.ref 1), some (.int m), none, none, none, none] (c + 1) w := by
  obtain ⟨P, T, A, U, K, N, z, hC, hM, hJ⟩ := h
  exact c_X3_years hC hJ.hz (fun u hu hG => ⟨_, rfl, c_X4_years (hM.frC hG) hJ.hz (fun v hv hF => ⟨rfl, JW.mk hu hF hv hJ.up⟩)⟩)
theorem j_keep (h : JW c w) {i : Int32} : TwoI mX3_keep [some (.ref 0), some (.int i)] mX4_keep [some (.ref 1), some (.int i), none] (c + 1) w := by
  obtain ⟨P, T, A, U, K, N, z, hC, hM, hJ⟩ := h
  refine c_X3_keep hC hJ.hz (fun u hu hG => ⟨_, rfl, c_X4_keep (hM.frC hG) (fun v hv hF => ⟨rfl, JW.mk hu hF hv ?_⟩)⟩)
  have g := hJ.up
  unfold keepF
  by_cases h1 : ¬ inQ i 2
  · rw [ifP_pos h1]; exact g
  · rw [ifP_neg h1]
    refine ⟨g.1, g.2.1, fun j hj hu => ?_, g.2.2.2⟩
    have hu' : (if j = kk i then true else U j) = true := hu
    show sameK P (if j = kk i then P else K j) ∧ okP (c + 1) (if j = kk i then P else K j)
    by_cases e : j = kk i
    · rw [if_pos e]; exact ⟨sameK.rf, g.1⟩
    · rw [if_neg e] at hu' ⊢; exact g.2.2.1 j hj hu'
theorem j_again (h : JW c w) {i : Int32} : TwoI mX3_again [some (.ref 0), some (.int i)] mX4_again [some (.ref 1), some (.int i), none] (c + 1) w := by
  obtain ⟨P, T, A, U, K, N, z, hC, hM, hJ⟩ := h
  refine c_X3_again hC hJ.hU (fun u hu hG => ⟨_, rfl, c_X4_again (hM.frC hG) (fun j hj hu => (hJ.hU j hj hu).1) (fun v hv hF => ⟨rfl, JW.mk hu hF hv ?_⟩)⟩)
  have g := hJ.up
  unfold againF
  by_cases h1 : ¬ inQ i 2
  · rw [ifP_pos h1]; exact g
  · rw [ifP_neg h1]
    by_cases h2 : U (kk i) = false
    · rw [ifP_pos h2]; exact g
    · rw [ifP_neg h2]
      obtain ⟨b, hb, e⟩ := Classical.not_not.mp h1
      have hk : kk i < 2 := by rw [e, kk_nI (by omega)]; exact hb
      obtain ⟨k1, k2⟩ := g.2.2.1 (kk i) hk (by cases hq : U (kk i) with | true => rfl | false => exact absurd hq h2)
      exact ⟨k2, fun j hj => absurd hj (Nat.not_lt_zero j), fun j hj hu => ⟨k1.sy.tr (g.2.2.1 j hj hu).1, (g.2.2.1 j hj hu).2⟩, g.2.2.2⟩
theorem j_count (h : JW c w) {x : Int32} : TwoI mX3_count [some (.ref 0), some (.int x)] mX4_count [some (.ref 1), some (.int x)] (c + 1) w := by
  obtain ⟨P, T, A, U, K, N, z, hC, hM, hJ⟩ := h
  exact c_X3_count hC hJ.hz ⟨_, rfl, c_X4_count hM ⟨rfl, JW.mk hC FrK.rf hM hJ.up⟩⟩
end JC

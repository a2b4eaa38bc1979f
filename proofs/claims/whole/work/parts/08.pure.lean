/-! numbers -/
theorem i_le (a b : Int32) : a ≤ b ↔ a.toInt ≤ b.toInt := Int32.le_iff_toInt_le
theorem i_lt (a b : Int32) : a < b ↔ a.toInt < b.toInt := Int32.lt_iff_toInt_lt
theorem i_nle {a b : Int32} : ¬ a ≤ b ↔ b < a := by rw [i_le, i_lt]; omega
theorem i_nlt {a b : Int32} : ¬ a < b ↔ b ≤ a := by rw [i_le, i_lt]; omega
theorem inR {i : Int32} {n : Nat} (hn : n < 2 ^ 31) (h1 : ¬ i < 0) (h2 : ¬ nI n ≤ i) : ∃ k, k < n ∧ i = nI k := by
  rcases pk_ix i hn with h | h | h
  · exact absurd h h1
  · exact absurd h h2
  · exact h
theorem notR {i : Int32} {n : Nat} (hn : n < 2 ^ 31) (h : i < 0 ∨ nI n ≤ i) : ¬ ∃ k, k < n ∧ i = nI k := by
  rintro ⟨k, hk, rfl⟩
  rcases h with h | h
  · exact nI_pos (by omega) h
  · exact nI_ge hk hn h
theorem hb0 : 0 < 2 := by decide
theorem hb1 : 1 < 2 := by decide
theorem ge_lt {n i : Nat} (h : ¬ nI n ≤ nI i) (hn : n < 2 ^ 31) (hi : i < 2 ^ 31) : i < n := by rw [nI_leI hn hi] at h; omega
theorem ge_eq {n i : Nat} (h : nI n ≤ nI i) (hi : i ≤ n) (hn : n < 2 ^ 31) : i = n := by rw [nI_leI hn (by omega)] at h; omega
/-- upward loops -/
theorem up {P : Nat → Prop} {n : Nat} (h : ∀ i, i ≤ n → (i < n → P (i + 1)) → P i) : ∀ i, i ≤ n → P i := by
  have key : ∀ k i, n - i = k → i ≤ n → P i := by
    intro k
    induction k with
    | zero => intro i hk hi; exact h i hi (fun q => absurd hk (by omega))
    | succ k ih => intro i hk hi; exact h i hi (fun q => ih (i + 1) (by omega) (by omega))
  exact fun i hi => key (n - i) i rfl hi
/-! a post: stamps, letters, week, damp; rows 0 age 1 health 2 kind 3 joined 4 on 5 left 6 cost 7 fate -/
abbrev PT : Type := (Nat × Nat × Int32 × Int32) × (Nat → Nat → Int32)
def isC (w : Wd) (b : Nat) (P : PT) : Prop := pn w b 0 = nI P.1.1 ∧ pn w b 1 = nI P.1.2.1 ∧ pn w b 2 = P.1.2.2.1 ∧ pn w b 3 = P.1.2.2.2 ∧ P.1.1 ≤ 5 ∧ P.1.2.1 ≤ 4 ∧ (∀ j s, j < 5 → s < P.1.1 → px w b j s = P.2 j s) ∧ (∀ j s, 5 ≤ j → j < 8 → s < P.1.2.1 → px w b j s = P.2 j s)
/-- a row of 30 cells from a on holds what changes of a post -/
def rowR (f : Nat → Int32) (a : Nat) (P : PT) : Prop := f (a + 29) = P.1.2.2.1 ∧ f (a + 28) = P.1.2.2.2 ∧ (∀ s, s < P.1.1 → f (a + s) = P.2 0 s ∧ f (a + 5 + s) = P.2 1 s ∧ f (a + 10 + s) = P.2 3 s ∧ f (a + 15 + s) = P.2 4 s) ∧ (∀ s, s < P.1.2.1 → f (a + 20 + s) = P.2 5 s ∧ f (a + 24 + s) = P.2 7 s)
def isM (w : Wd) (l : Nat) (P : PT) : Prop := w.1 16 = nI P.1.1 ∧ w.1 17 = nI P.1.2.1 ∧ P.1.1 ≤ 5 ∧ P.1.2.1 ≤ 4 ∧ rowR (w.2.2 33) (30 * l) P ∧ (∀ s, s < P.1.1 → w.2.2 31 s = P.2 2 s) ∧ (∀ s, s < P.1.2.1 → w.2.2 32 s = P.2 6 s)
/-- only the array r has changed -/
def FrA (r : Nat) (w u : Wd) : Prop := u.1 = w.1 ∧ u.2.1 = w.2.1 ∧ ∀ q, ¬ q = r → u.2.2 q = w.2.2 q
/-- only post b has changed -/
def Fr (b : Nat) (w u : Wd) : Prop := (∀ j, (j < 8 + 4 * b ∨ 12 + 4 * b ≤ j) → u.1 j = w.1 j) ∧ u.2.1 = w.2.1 ∧ (∀ r, (r < 7 + 8 * b ∨ 15 + 8 * b ≤ r) → u.2.2 r = w.2.2 r)
/-- only level l of the reference has changed -/
def FrM (l : Nat) (w u : Wd) : Prop := u.1 = w.1 ∧ u.2.1 = w.2.1 ∧ (∀ r, ¬ r = 33 → u.2.2 r = w.2.2 r) ∧ ∀ i, (i < 30 * l ∨ 30 * l + 30 ≤ i) → u.2.2 33 i = w.2.2 33 i
theorem Fr.rf {b : Nat} {w : Wd} : Fr b w w := ⟨fun _ _ => rfl, rfl, fun _ _ => rfl⟩
theorem Fr.tr {b : Nat} {w u v : Wd} (h1 : Fr b w u) (h2 : Fr b u v) : Fr b w v := ⟨fun j h => (h2.1 j h).trans (h1.1 j h), h2.2.1.trans h1.2.1, fun r h => (h2.2.2 r h).trans (h1.2.2 r h)⟩
theorem FrM.rf {l : Nat} {w : Wd} : FrM l w w := ⟨rfl, rfl, fun _ _ => rfl, fun _ _ => rfl⟩
theorem FrM.tr {l : Nat} {w u v : Wd} (h1 : FrM l w u) (h2 : FrM l u v) : FrM l w v := ⟨h2.1.trans h1.1, h2.2.1.trans h1.2.1, fun r h => (h2.2.2.1 r h).trans (h1.2.2.1 r h), fun i h => (h2.2.2.2 i h).trans (h1.2.2.2 i h)⟩
def setP (P : PT) (j k : Nat) (x : Int32) : PT := (P.1, fun j' s => if j' = j ∧ s = k then x else P.2 j' s)
def weekP (P : PT) (x : Int32) : PT := ((P.1.1, P.1.2.1, x, P.1.2.2.2), P.2)
def dampP (P : PT) (x : Int32) : PT := ((P.1.1, P.1.2.1, P.1.2.2.1, x), P.2)
/-- alike below the bounds -/
def PEq (P R : PT) : Prop := P.1 = R.1 ∧ (∀ j s, j < 5 → s < P.1.1 → P.2 j s = R.2 j s) ∧ (∀ j s, 5 ≤ j → j < 8 → s < P.1.2.1 → P.2 j s = R.2 j s)
theorem isC.eq {w : Wd} {b : Nat} {P R : PT} (h : isC w b P) (e : PEq P R) : isC w b R := by
  obtain ⟨⟨n, L, k, d⟩, f⟩ := P
  obtain ⟨⟨n2, L2, k2, d2⟩, f2⟩ := R
  obtain ⟨e1, e2, e3⟩ := e
  cases e1
  obtain ⟨h1, h2, h3, h4, h5, h6, h7, h8⟩ := h
  exact ⟨h1, h2, h3, h4, h5, h6, fun j s a c => (h7 j s a c).trans (e2 j s a c), fun j s a a2 c => (h8 j s a a2 c).trans (e3 j s a a2 c)⟩
theorem rowR.eq {f : Nat → Int32} {a : Nat} {P R : PT} (h : rowR f a P) (e : PEq P R) : rowR f a R := by
  obtain ⟨⟨n, L, k, d⟩, f0⟩ := P
  obtain ⟨⟨n2, L2, k2, d2⟩, f2⟩ := R
  obtain ⟨e1, e2, e3⟩ := e
  cases e1
  obtain ⟨h3, h4, h7, h8⟩ := h
  refine ⟨h3, h4, fun s c => ?_, fun s c => ?_⟩
  · obtain ⟨a0, a1, a3, a4⟩ := h7 s c
    exact ⟨a0.trans (e2 0 s (by decide) c), a1.trans (e2 1 s (by decide) c), a3.trans (e2 3 s (by decide) c), a4.trans (e2 4 s (by decide) c)⟩
  · obtain ⟨a0, a2⟩ := h8 s c
    exact ⟨a0.trans (e3 5 s (by decide) (by decide) c), a2.trans (e3 7 s (by decide) (by decide) c)⟩
theorem isM.eq {w : Wd} {l : Nat} {P R : PT} (h : isM w l P) (e : PEq P R) : isM w l R := by
  obtain ⟨h1, h2, h3, h4, h5, h6, h7⟩ := h
  have e0 := e
  obtain ⟨e1, e2, e3⟩ := e
  refine ⟨by rw [← e1]; exact h1, by rw [← e1]; exact h2, by rw [← e1]; exact h3, by rw [← e1]; exact h4, h5.eq e0, fun s c => ?_, fun s c => ?_⟩
  · rw [← e1] at c; exact (h6 s c).trans (e2 2 s (by decide) c)
  · rw [← e1] at c; exact (h7 s c).trans (e3 6 s (by decide) (by decide) c)
theorem FrA.rf {r : Nat} {w : Wd} : FrA r w w := ⟨rfl, rfl, fun _ _ => rfl⟩
theorem FrA.tr {r : Nat} {w u v : Wd} (h1 : FrA r w u) (h2 : FrA r u v) : FrA r w v := ⟨h2.1.trans h1.1, h2.2.1.trans h1.2.1, fun q h => (h2.2.2 q h).trans (h1.2.2 q h)⟩
theorem FrA.oA {r : Nat} {w : Wd} {f : Nat → Int32} : FrA r w (sA w r f) := ⟨rfl, rfl, fun q h => by simp [sA, h]⟩
theorem FrA.fr {b j : Nat} {w u : Wd} (hj : j < 8) (h : FrA (ar b j) w u) : Fr b w u := ⟨fun i _ => by rw [h.1], h.2.1, fun r hr => h.2.2 r (by unfold ar; omega)⟩
theorem isC.fA {w u : Wd} {b r : Nat} {P : PT} (h : isC w b P) (hb : b < 2) (hr : 22 < r) (hF : FrA r w u) : isC u b P := by
  obtain ⟨h1, h2, h3, h4, h5, h6, h7, h8⟩ := h
  have e1 : ∀ j, pn u b j = pn w b j := fun j => by unfold pn; rw [hF.1]
  have e2 : ∀ j, j < 8 → px u b j = px w b j := fun j hj => hF.2.2 _ (by unfold ar; omega)
  refine ⟨by rw [e1]; exact h1, by rw [e1]; exact h2, by rw [e1]; exact h3, by rw [e1]; exact h4, h5, h6, fun j s a c => ?_, fun j s a a2 c => ?_⟩
  · rw [e2 j (by omega)]; exact h7 j s a c
  · rw [e2 j a2]; exact h8 j s a a2 c
theorem ar_inj {b j j' : Nat} (h : ar b j = ar b j') : j = j' := by unfold ar at h; omega
theorem Fr.oA {b j : Nat} {w : Wd} {f : Nat → Int32} (hj : j < 8) : Fr b w (sA w (ar b j) f) := ⟨fun _ _ => rfl, rfl, fun r h => by simp only [sA]; rw [if_neg]; unfold ar; omega⟩
theorem Fr.oI {b j : Nat} {w : Wd} {x : Int32} (hj : j < 4) : Fr b w (sI w (pj b j) x) := ⟨fun i h => by simp only [sI, upd]; rw [if_neg]; unfold pj; omega, rfl, fun _ _ => rfl⟩
theorem px_sA {w : Wd} {b j j' : Nat} {f : Nat → Int32} : px (sA w (ar b j) f) b j' = if j' = j then f else px w b j' := by
  unfold px sA
  by_cases h : j' = j
  · subst h; simp
  · have : ¬ ar b j' = ar b j := fun q => h (ar_inj q)
    simp [h, this]
theorem pn_sA {w : Wd} {b j j' : Nat} {f : Nat → Int32} : pn (sA w (ar b j) f) b j' = pn w b j' := rfl
theorem px_sI {w : Wd} {b j' i : Nat} {x : Int32} : px (sI w i x) b j' = px w b j' := rfl
theorem pn_sI {w : Wd} {b j j' : Nat} {x : Int32} : pn (sI w (pj b j) x) b j' = if j' = j then x else pn w b j' := by
  unfold pn sI upd pj
  by_cases h : j' = j
  · subst h; simp
  · have : ¬ 8 + 4 * b + j' = 8 + 4 * b + j := by omega
    simp [h]
theorem isC.setA {w : Wd} {b : Nat} {P : PT} (h : isC w b P) {j k : Nat} {x : Int32} : isC (sA w (ar b j) (upd (px w b j) k x)) b (setP P j k x) := by
  obtain ⟨h1, h2, h3, h4, h5, h6, h7, h8⟩ := h
  refine ⟨h1, h2, h3, h4, h5, h6, fun j' s a c => ?_, fun j' s a a2 c => ?_⟩
  · rw [px_sA]
    simp only [setP]
    by_cases e : j' = j
    · subst e
      rw [if_pos rfl]
      by_cases e2 : s = k
      · rw [if_pos ⟨rfl, e2⟩]; simp [upd, e2]
      · rw [if_neg (fun q => e2 q.2)]; simp only [upd, if_neg e2]; exact h7 j' s a c
    · rw [if_neg e, if_neg (fun q => e q.1)]; exact h7 j' s a c
  · rw [px_sA]
    simp only [setP]
    by_cases e : j' = j
    · subst e
      rw [if_pos rfl]
      by_cases e2 : s = k
      · rw [if_pos ⟨rfl, e2⟩]; simp [upd, e2]
      · rw [if_neg (fun q => e2 q.2)]; simp only [upd, if_neg e2]; exact h8 j' s a a2 c
    · rw [if_neg e, if_neg (fun q => e q.1)]; exact h8 j' s a a2 c
theorem isC.week {w : Wd} {b : Nat} {P : PT} (h : isC w b P) {x : Int32} : isC (sI w (pj b 2) x) b (weekP P x) := by
  obtain ⟨h1, h2, h3, h4, h5, h6, h7, h8⟩ := h
  exact ⟨by rw [pn_sI]; exact h1, by rw [pn_sI]; exact h2, by rw [pn_sI]; rfl, by rw [pn_sI]; exact h4, h5, h6, h7, h8⟩
theorem isC.damp {w : Wd} {b : Nat} {P : PT} (h : isC w b P) {x : Int32} : isC (sI w (pj b 3) x) b (dampP P x) := by
  obtain ⟨h1, h2, h3, h4, h5, h6, h7, h8⟩ := h
  exact ⟨by rw [pn_sI]; exact h1, by rw [pn_sI]; exact h2, by rw [pn_sI]; exact h3, by rw [pn_sI]; rfl, h5, h6, h7, h8⟩
/-! what is read off a post -/
def spanF (k h : Int32) : Int32 := 60 + 3 * h + (if k = 1 then 10 else if k = 2 then 15 else 0)
def alP (P : PT) (s : Nat) : Bool := decide (P.2 0 s < spanF (P.2 2 s) (P.2 1 s))
def min9 (x : Int32) : Int32 := if x < 9 then x else 9
def rateF (k a : Int32) : Int32 := if k = 0 then min9 (2 + a / 20) else if k = 1 then 1 else if k = 2 then min9 (2 + a / 10) else 0
def rateP (P : PT) (s : Nat) : Int32 := rateF (P.2 2 s) (P.2 0 s)
def orB (f : Nat → Bool) : Nat → Int32
  | 0 => 0
  | n + 1 => orB f n ||| (if f n then 1 <<< (nI n &&& 31) else 0)
def suB (f : Nat → Int32) : Nat → Int32
  | 0 => 0
  | n + 1 => suB f n + f n
/-- the bit k of x -/
def bit (x : Int32) (k : Nat) : Bool := decide (x >>> (nI k &&& 31) &&& 1 = 1)
def aliveP (P : PT) : Int32 := orB (alP P) P.1.1
def widP (P : PT) : Int32 := orB (fun s => bit (aliveP P) s && decide (¬ P.2 3 s &&& (aliveP P ^^^ (-1)) = 0)) P.1.1
def freeP (P : PT) : Int32 := orB (fun s => alP P s && decide (P.2 4 s = -9)) P.1.1
def stuckP (P : PT) (l : Int32) : Int32 := orB (fun s => decide (P.2 4 s = l)) P.1.1
def fateP (P : PT) (x : Int32) : Int32 := orB (fun s => decide (P.2 7 s = x)) P.1.2.1
def goodP (P : PT) (x : Int32) : Int32 := suB (fun s => if bit x s && alP P s then rateP P s else 0) P.1.1
def payP (P : PT) (x : Int32) : Int32 := suB (fun s => if decide (P.2 7 s = 0) && decide (P.2 6 s ≤ goodP P x) then 1 else 0) P.1.2.1
def growI (P : PT) (x k : Int32) (i : Nat) : PT := (P.1, fun j s => if j = 0 ∧ s < i ∧ bit x s = true ∧ ¬ P.2 2 s = 3 then P.2 0 s + k else P.2 j s)
def growP (P : PT) (x k : Int32) : PT := growI P x k P.1.1
theorem growI_0 (P : PT) (x k : Int32) : PEq P (growI P x k 0) := ⟨rfl, fun j s _ _ => by simp [growI], fun j s _ _ _ => by simp [growI]⟩
theorem growI_s {P : PT} {x k : Int32} {i : Nat} (h1 : bit x i = true) (h2 : ¬ P.2 2 i = 3) : PEq (setP (growI P x k i) 0 i ((growI P x k i).2 0 i + k)) (growI P x k (i + 1)) := by
  have e : ∀ j s, (setP (growI P x k i) 0 i ((growI P x k i).2 0 i + k)).2 j s = (growI P x k (i + 1)).2 j s := by
    intro j s
    simp only [setP, growI]
    by_cases hj : j = 0
    · subst hj
      by_cases hs : s = i
      · subst hs; simp [h1, h2]
      · have : (s < i + 1) ↔ s < i := by omega
        simp [hs, this]
    · simp [hj]
  exact ⟨rfl, fun j s _ _ => e j s, fun j s _ _ _ => e j s⟩
theorem growI_n {P : PT} {x k : Int32} {i : Nat} (h : ¬ (bit x i = true ∧ ¬ P.2 2 i = 3)) : PEq (growI P x k i) (growI P x k (i + 1)) := by
  have e : ∀ j s, (growI P x k i).2 j s = (growI P x k (i + 1)).2 j s := by
    intro j s
    simp only [growI]
    by_cases hs : s = i
    · subst hs
      rw [if_neg (by omega), if_neg (fun q => h q.2.2)]
    · have : (s < i + 1) ↔ s < i := by omega
      simp only [this]
  exact ⟨rfl, fun j s _ _ => e j s, fun j s _ _ _ => e j s⟩
/-- a letter is carried: live is who lives -/
def carI (P : PT) (i : Nat) : PT := (P.1, fun j s => if s < i ∧ P.2 7 s = 1 then (if j = 5 then P.2 5 s - 1 else if j = 7 then (if 0 < P.2 5 s - 1 then 1 else if ¬ stuckP P (nI s) &&& aliveP P = 0 then 2 else 3) else P.2 j s) else P.2 j s)
def passP (P : PT) : PT := weekP (carI (growP (growP P (aliveP P) (if P.1.2.2.2 = 0 then 1 else 2)) (widP (growP P (aliveP P) (if P.1.2.2.2 = 0 then 1 else 2))) 2) P.1.2.1) (P.1.2.2.1 + 1)

section VQ
variable {M : MD} {pc : Nat} {ls : LsT} {st : List Value} {w : Wd} {Q : Option Value → Wd → Prop} {P : PT} {b : Nat}
theorem vlq_X1_age (hb : b < 2) (hC : isC w b P) {i : Int32} (k n : Nat) (hd : decode M.2.1 pc = .ok (.iaload, 1)) (hn : pc + 1 = n) (hi : i = nI k) (hk : k < P.1.1) (h : V M n ls (.int (P.2 0 k) :: st) w Q) : V M pc ls (.int i :: .ref (ar b 0) :: st) w Q :=
  vl_X1_age hb k n hd hn hi (Nat.lt_of_lt_of_le hk hC.2.2.2.2.1) (by rw [hC.2.2.2.2.2.2.1 0 k (by decide) hk]; exact h)
theorem vwq_X1_age (hb : b < 2) (hC : isC w b P) {i x : Int32} (k n : Nat) (hd : decode M.2.1 pc = .ok (.iastore, 1)) (hn : pc + 1 = n) (hi : i = nI k) (hk : k < P.1.1) (h : ∀ u, isC u b (setP P 0 k x) → Fr b w u → V M n ls st u Q) : V M pc ls (.int x :: .int i :: .ref (ar b 0) :: st) w Q :=
  vw_X1_age hb k n hd hn hi (Nat.lt_of_lt_of_le hk hC.2.2.2.2.1) (h _ hC.setA (Fr.oA (by decide)))
theorem vlq_X1_health (hb : b < 2) (hC : isC w b P) {i : Int32} (k n : Nat) (hd : decode M.2.1 pc = .ok (.iaload, 1)) (hn : pc + 1 = n) (hi : i = nI k) (hk : k < P.1.1) (h : V M n ls (.int (P.2 1 k) :: st) w Q) : V M pc ls (.int i :: .ref (ar b 1) :: st) w Q :=
  vl_X1_health hb k n hd hn hi (Nat.lt_of_lt_of_le hk hC.2.2.2.2.1) (by rw [hC.2.2.2.2.2.2.1 1 k (by decide) hk]; exact h)
theorem vwq_X1_health (hb : b < 2) (hC : isC w b P) {i x : Int32} (k n : Nat) (hd : decode M.2.1 pc = .ok (.iastore, 1)) (hn : pc + 1 = n) (hi : i = nI k) (hk : k < P.1.1) (h : ∀ u, isC u b (setP P 1 k x) → Fr b w u → V M n ls st u Q) : V M pc ls (.int x :: .int i :: .ref (ar b 1) :: st) w Q :=
  vw_X1_health hb k n hd hn hi (Nat.lt_of_lt_of_le hk hC.2.2.2.2.1) (h _ hC.setA (Fr.oA (by decide)))
theorem vlq_X1_kind (hb : b < 2) (hC : isC w b P) {i : Int32} (k n : Nat) (hd : decode M.2.1 pc = .ok (.iaload, 1)) (hn : pc + 1 = n) (hi : i = nI k) (hk : k < P.1.1) (h : V M n ls (.int (P.2 2 k) :: st) w Q) : V M pc ls (.int i :: .ref (ar b 2) :: st) w Q :=
  vl_X1_kind hb k n hd hn hi (Nat.lt_of_lt_of_le hk hC.2.2.2.2.1) (by rw [hC.2.2.2.2.2.2.1 2 k (by decide) hk]; exact h)
theorem vwq_X1_kind (hb : b < 2) (hC : isC w b P) {i x : Int32} (k n : Nat) (hd : decode M.2.1 pc = .ok (.iastore, 1)) (hn : pc + 1 = n) (hi : i = nI k) (hk : k < P.1.1) (h : ∀ u, isC u b (setP P 2 k x) → Fr b w u → V M n ls st u Q) : V M pc ls (.int x :: .int i :: .ref (ar b 2) :: st) w Q :=
  vw_X1_kind hb k n hd hn hi (Nat.lt_of_lt_of_le hk hC.2.2.2.2.1) (h _ hC.setA (Fr.oA (by decide)))
theorem vlq_X1_joined (hb : b < 2) (hC : isC w b P) {i : Int32} (k n : Nat) (hd : decode M.2.1 pc = .ok (.iaload, 1)) (hn : pc + 1 = n) (hi : i = nI k) (hk : k < P.1.1) (h : V M n ls (.int (P.2 3 k) :: st) w Q) : V M pc ls (.int i :: .ref (ar b 3) :: st) w Q :=
  vl_X1_joined hb k n hd hn hi (Nat.lt_of_lt_of_le hk hC.2.2.2.2.1) (by rw [hC.2.2.2.2.2.2.1 3 k (by decide) hk]; exact h)
theorem vwq_X1_joined (hb : b < 2) (hC : isC w b P) {i x : Int32} (k n : Nat) (hd : decode M.2.1 pc = .ok (.iastore, 1)) (hn : pc + 1 = n) (hi : i = nI k) (hk : k < P.1.1) (h : ∀ u, isC u b (setP P 3 k x) → Fr b w u → V M n ls st u Q) : V M pc ls (.int x :: .int i :: .ref (ar b 3) :: st) w Q :=
  vw_X1_joined hb k n hd hn hi (Nat.lt_of_lt_of_le hk hC.2.2.2.2.1) (h _ hC.setA (Fr.oA (by decide)))
theorem vlq_X1_on (hb : b < 2) (hC : isC w b P) {i : Int32} (k n : Nat) (hd : decode M.2.1 pc = .ok (.iaload, 1)) (hn : pc + 1 = n) (hi : i = nI k) (hk : k < P.1.1) (h : V M n ls (.int (P.2 4 k) :: st) w Q) : V M pc ls (.int i :: .ref (ar b 4) :: st) w Q :=
  vl_X1_on hb k n hd hn hi (Nat.lt_of_lt_of_le hk hC.2.2.2.2.1) (by rw [hC.2.2.2.2.2.2.1 4 k (by decide) hk]; exact h)
theorem vwq_X1_on (hb : b < 2) (hC : isC w b P) {i x : Int32} (k n : Nat) (hd : decode M.2.1 pc = .ok (.iastore, 1)) (hn : pc + 1 = n) (hi : i = nI k) (hk : k < P.1.1) (h : ∀ u, isC u b (setP P 4 k x) → Fr b w u → V M n ls st u Q) : V M pc ls (.int x :: .int i :: .ref (ar b 4) :: st) w Q :=
  vw_X1_on hb k n hd hn hi (Nat.lt_of_lt_of_le hk hC.2.2.2.2.1) (h _ hC.setA (Fr.oA (by decide)))
theorem vlq_X1_left (hb : b < 2) (hC : isC w b P) {i : Int32} (k n : Nat) (hd : decode M.2.1 pc = .ok (.iaload, 1)) (hn : pc + 1 = n) (hi : i = nI k) (hk : k < P.1.2.1) (h : V M n ls (.int (P.2 5 k) :: st) w Q) : V M pc ls (.int i :: .ref (ar b 5) :: st) w Q :=
  vl_X1_left hb k n hd hn hi (Nat.lt_of_lt_of_le hk hC.2.2.2.2.2.1) (by rw [hC.2.2.2.2.2.2.2 5 k (by decide) (by decide) hk]; exact h)
theorem vwq_X1_left (hb : b < 2) (hC : isC w b P) {i x : Int32} (k n : Nat) (hd : decode M.2.1 pc = .ok (.iastore, 1)) (hn : pc + 1 = n) (hi : i = nI k) (hk : k < P.1.2.1) (h : ∀ u, isC u b (setP P 5 k x) → Fr b w u → V M n ls st u Q) : V M pc ls (.int x :: .int i :: .ref (ar b 5) :: st) w Q :=
  vw_X1_left hb k n hd hn hi (Nat.lt_of_lt_of_le hk hC.2.2.2.2.2.1) (h _ hC.setA (Fr.oA (by decide)))
theorem vlq_X1_cost (hb : b < 2) (hC : isC w b P) {i : Int32} (k n : Nat) (hd : decode M.2.1 pc = .ok (.iaload, 1)) (hn : pc + 1 = n) (hi : i = nI k) (hk : k < P.1.2.1) (h : V M n ls (.int (P.2 6 k) :: st) w Q) : V M pc ls (.int i :: .ref (ar b 6) :: st) w Q :=
  vl_X1_cost hb k n hd hn hi (Nat.lt_of_lt_of_le hk hC.2.2.2.2.2.1) (by rw [hC.2.2.2.2.2.2.2 6 k (by decide) (by decide) hk]; exact h)
theorem vwq_X1_cost (hb : b < 2) (hC : isC w b P) {i x : Int32} (k n : Nat) (hd : decode M.2.1 pc = .ok (.iastore, 1)) (hn : pc + 1 = n) (hi : i = nI k) (hk : k < P.1.2.1) (h : ∀ u, isC u b (setP P 6 k x) → Fr b w u → V M n ls st u Q) : V M pc ls (.int x :: .int i :: .ref (ar b 6) :: st) w Q :=
  vw_X1_cost hb k n hd hn hi (Nat.lt_of_lt_of_le hk hC.2.2.2.2.2.1) (h _ hC.setA (Fr.oA (by decide)))
theorem vlq_X1_fate (hb : b < 2) (hC : isC w b P) {i : Int32} (k n : Nat) (hd : decode M.2.1 pc = .ok (.iaload, 1)) (hn : pc + 1 = n) (hi : i = nI k) (hk : k < P.1.2.1) (h : V M n ls (.int (P.2 7 k) :: st) w Q) : V M pc ls (.int i :: .ref (ar b 7) :: st) w Q :=
  vl_X1_fate hb k n hd hn hi (Nat.lt_of_lt_of_le hk hC.2.2.2.2.2.1) (by rw [hC.2.2.2.2.2.2.2 7 k (by decide) (by decide) hk]; exact h)
theorem vwq_X1_fate (hb : b < 2) (hC : isC w b P) {i x : Int32} (k n : Nat) (hd : decode M.2.1 pc = .ok (.iastore, 1)) (hn : pc + 1 = n) (hi : i = nI k) (hk : k < P.1.2.1) (h : ∀ u, isC u b (setP P 7 k x) → Fr b w u → V M n ls st u Q) : V M pc ls (.int x :: .int i :: .ref (ar b 7) :: st) w Q :=
  vw_X1_fate hb k n hd hn hi (Nat.lt_of_lt_of_le hk hC.2.2.2.2.2.1) (h _ hC.setA (Fr.oA (by decide)))
theorem vgq_X3_73 (hb : b < 2) (hC : isC w b P) (hM : M.1 = RX3) (n : Nat) (hd : decode M.2.1 pc = .ok (.getfield 73, 3)) (hn : pc + 3 = n) (h : V M n ls (.int (nI P.1.1) :: st) w Q) : V M pc ls (.ref (pr b) :: st) w Q := vg_X3_73 hb hM n hd hn (by rw [hC.1]; exact h)
theorem vgq_X3_76 (hb : b < 2) (hC : isC w b P) (hM : M.1 = RX3) (n : Nat) (hd : decode M.2.1 pc = .ok (.getfield 76, 3)) (hn : pc + 3 = n) (h : V M n ls (.int (nI P.1.2.1) :: st) w Q) : V M pc ls (.ref (pr b) :: st) w Q := vg_X3_76 hb hM n hd hn (by rw [hC.2.1]; exact h)
theorem vgq_X3_161 (hb : b < 2) (hC : isC w b P) (hM : M.1 = RX3) (n : Nat) (hd : decode M.2.1 pc = .ok (.getfield 161, 3)) (hn : pc + 3 = n) (h : V M n ls (.int (P.1.2.2.2) :: st) w Q) : V M pc ls (.ref (pr b) :: st) w Q := vg_X3_161 hb hM n hd hn (by rw [hC.2.2.2.1]; exact h)
theorem vgq_X3_234 (hb : b < 2) (hC : isC w b P) (hM : M.1 = RX3) (n : Nat) (hd : decode M.2.1 pc = .ok (.getfield 234, 3)) (hn : pc + 3 = n) (h : V M n ls (.int (P.1.2.2.1) :: st) w Q) : V M pc ls (.ref (pr b) :: st) w Q := vg_X3_234 hb hM n hd hn (by rw [hC.2.2.1]; exact h)
theorem vgq_X0_51 (hb : b < 2) (hC : isC w b P) (hM : M.1 = RX0) (n : Nat) (hd : decode M.2.1 pc = .ok (.getfield 51, 3)) (hn : pc + 3 = n) (h : V M n ls (.int (P.1.2.2.2) :: st) w Q) : V M pc ls (.ref (pr b) :: st) w Q := vg_X0_51 hb hM n hd hn (by rw [hC.2.2.2.1]; exact h)
theorem vgq_X0_55 (hb : b < 2) (hC : isC w b P) (hM : M.1 = RX0) (n : Nat) (hd : decode M.2.1 pc = .ok (.getfield 55, 3)) (hn : pc + 3 = n) (h : V M n ls (.int (P.1.2.2.1) :: st) w Q) : V M pc ls (.ref (pr b) :: st) w Q := vg_X0_55 hb hM n hd hn (by rw [hC.2.2.1]; exact h)
theorem vgq_X1_36 (hb : b < 2) (hC : isC w b P) (hM : M.1 = RX1) (n : Nat) (hd : decode M.2.1 pc = .ok (.getfield 36, 3)) (hn : pc + 3 = n) (h : V M n ls (.int (nI P.1.1) :: st) w Q) : V M pc ls (.ref (pr b) :: st) w Q := vg_X1_36 hb hM n hd hn (by rw [hC.1]; exact h)
theorem vgq_X1_40 (hb : b < 2) (hC : isC w b P) (hM : M.1 = RX1) (n : Nat) (hd : decode M.2.1 pc = .ok (.getfield 40, 3)) (hn : pc + 3 = n) (h : V M n ls (.int (nI P.1.2.1) :: st) w Q) : V M pc ls (.ref (pr b) :: st) w Q := vg_X1_40 hb hM n hd hn (by rw [hC.2.1]; exact h)
theorem vgq_X1_43 (hb : b < 2) (hC : isC w b P) (hM : M.1 = RX1) (n : Nat) (hd : decode M.2.1 pc = .ok (.getfield 43, 3)) (hn : pc + 3 = n) (h : V M n ls (.int (P.1.2.2.1) :: st) w Q) : V M pc ls (.ref (pr b) :: st) w Q := vg_X1_43 hb hM n hd hn (by rw [hC.2.2.1]; exact h)
theorem vgq_X1_46 (hb : b < 2) (hC : isC w b P) (hM : M.1 = RX1) (n : Nat) (hd : decode M.2.1 pc = .ok (.getfield 46, 3)) (hn : pc + 3 = n) (h : V M n ls (.int (P.1.2.2.2) :: st) w Q) : V M pc ls (.ref (pr b) :: st) w Q := vg_X1_46 hb hM n hd hn (by rw [hC.2.2.2.1]; exact h)
theorem vgq_X2_32 (hb : b < 2) (hC : isC w b P) (hM : M.1 = RX2) (n : Nat) (hd : decode M.2.1 pc = .ok (.getfield 32, 3)) (hn : pc + 3 = n) (h : V M n ls (.int (nI P.1.1) :: st) w Q) : V M pc ls (.ref (pr b) :: st) w Q := vg_X2_32 hb hM n hd hn (by rw [hC.1]; exact h)
theorem vgq_X2_41 (hb : b < 2) (hC : isC w b P) (hM : M.1 = RX2) (n : Nat) (hd : decode M.2.1 pc = .ok (.getfield 41, 3)) (hn : pc + 3 = n) (h : V M n ls (.int (nI P.1.2.1) :: st) w Q) : V M pc ls (.ref (pr b) :: st) w Q := vg_X2_41 hb hM n hd hn (by rw [hC.2.1]; exact h)
end VQ

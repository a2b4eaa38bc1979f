def TG : List Cond := lw_tbl.filter goodWord
theorem tg {q : Cond} (i : Nat) (h : lw_tbl[i]? = some q) (g : goodWord q = true) : q ∈ TG := List.mem_filter.mpr ⟨List.mem_of_getElem? h, g⟩
/-! The world: one table of ints, one of longs, one of arrays; the objects' shape is fixed (cE). -/
abbrev Wd : Type := (Nat → Int32) × (Nat → Int64) × (Nat → Nat → Int32)
/-- a method: its class, code, locals, answer's type, the frames and words of locals that it may use -/
abbrev MD : Type := String × ByteArray × Nat × Option FieldType × Nat × Nat
abbrev LsT : Type := List (Option Value)
abbrev classes : List vw_C := [(RX0, TX0, 1), (RX1, TX1, 12), (RX2, TX2, 5), (RX3, TX3, 15), (RX4, TX4, 24)]
def cv (ad : Nat → Nat) (v : Value) : Value := match v with
  | .ref i => .ref (ad i)
  | v => v
def cvE (ad : Nat → Nat) (e : va_E) : va_E := match e with
  | .inl a => .inl a
  | .inr q => .inr (q.1, q.2.map (cv ad))
def iE (kI : ClassId) (w : Wd) (r n : Nat) : va_E := .inl (kI, n, .inl (w.2.2 r))
def pr (b : Nat) : Nat := 3 + b
def ar (b j : Nat) : Nat := 7 + 8 * b + j
def pj (b j : Nat) : Nat := 8 + 4 * b + j
def mr (g : Nat) : Nat := 5 + g
def mc (g : Nat) : Nat := 23 + g
def pn (w : Wd) (b j : Nat) : Int32 := w.1 (pj b j)
def px (w : Wd) (b j : Nat) : Nat → Int32 := w.2.2 (ar b j)
def pE (w : Wd) (b : Nat) : va_E := .inr (1, [.int (pn w b 0), .int (pn w b 1), .int (pn w b 2), .int (pn w b 3), .ref (ar b 0), .ref (ar b 1), .ref (ar b 2), .ref (ar b 3), .ref (ar b 4), .ref (ar b 5), .ref (ar b 6), .ref (ar b 7)])
def mE (g : Nat) : va_E := .inr (0, [.ref (mc g)])
def cE (kI kZ : ClassId) (w : Wd) : List va_E := [
  .inr (3, [.ref 25, .int (w.1 0), .ref 2, .ref (pr 0), .ref (pr 1), .ref (mr 0), .int (w.1 1), .ref (mr 1), .ref 26, .ref 27, .ref 28, .ref 29, .int (w.1 2), .ref 30, .long (w.2.1 0)]),
  .inr (4, [.int (w.1 16), .int (w.1 17), .ref 31, .ref 32, .ref 33, .ref 34, .ref 35, .ref 36, .int (w.1 18), .int (w.1 19), .ref 37, .int (w.1 20), .int (w.1 21), .int (w.1 22), .int (w.1 23), .int (w.1 24), .ref 38, .int (w.1 25), .ref 39, .ref 40, .ref 41, .long (w.2.1 1), .ref 42, .ref 43]),
  .inr (2, [.int (w.1 3), .int (w.1 4), .int (w.1 5), .int (w.1 6), .int (w.1 7)]),
  pE w 0, pE w 1, mE 0, mE 1,
  iE kI w 7 5, iE kI w 8 5, iE kI w 9 5, iE kI w 10 5, iE kI w 11 5, iE kI w 12 4, iE kI w 13 4, iE kI w 14 4,
  iE kI w 15 5, iE kI w 16 5, iE kI w 17 5, iE kI w 18 5, iE kI w 19 5, iE kI w 20 4, iE kI w 21 4, iE kI w 22 4,
  iE kI w 23 420, iE kI w 24 60, iE kI w 25 48, iE kZ w 26 2, iE kI w 27 6, iE kI w 28 6, iE kZ w 29 6, iE kI w 30 4,
  iE kI w 31 5, iE kI w 32 4, iE kI w 33 60, iE kI w 34 15, iE kI w 35 5, iE kI w 36 8, iE kI w 37 48, iE kI w 38 420, iE kI w 39 6, iE kI w 40 6, iE kI w 41 6, iE kZ w 42 2, iE kI w 43 60]
def cW (ad : Nat → Nat) (kI kZ : ClassId) (w : Wd) : va_W := (cE kI kZ w).mapIdx (fun i e => (ad i, cvE ad e))
def LH (ad : Nat → Nat) (lsA : Array Slot) (nL : Nat) (ls : LsT) : Prop := lsA.size = nL ∧ lv_wf lsA ∧ ∀ (i : Nat) (v : Value), ls[i]? = some (some v) → lsA[i]? = some (.val (cv ad v))
def Cx (M : MD) (p : Program) (R : Room) (s : State) (m : MethodId) (args : Array Value) (meth : Method) (c : Code) (kI kZ : ClassId) (D : va_G) (A : Nat → Prop) (cells slots : Nat) : Prop :=
  p.tables.exec = Jvm.exec ∧ c.code = M.2.1 ∧ c.maxLocals = M.2.2.1 ∧ s.vm.findClass M.1 = some m.cls ∧ (∀ w ∈ TG, w.before args s = true) ∧ va_K D classes [(kI, .int), (kZ, .boolean)] s ∧ (∀ q : Nat, s.heap.size ≤ q → A q) ∧ M.2.2.2.2.1 ≤ R.frames ∧ M.2.2.2.2.2 ≤ R.locals ∧ cells ≤ R.cells ∧ slots ≤ R.slots
def Sn (M : MD) (pc : Nat) (ls : LsT) (st : List Value) (w : Wd) (p : Program) (l : Launch) (e : Env) (R : Room) (s : State) (m : MethodId) (args : Array Value) (below : List Frame) (meth : Method) (c : Code) (ad : Nat → Nat) (kI kZ : ClassId) (D : va_G) (A : Nat → Prop) (cells slots : Nat) (Z : State → Prop) : Prop :=
  ∀ (H : Heap) (locs : List Loc) (lsA : Array Slot), va_P D classes (cW ad kI kZ w) H → va_D A (cW ad kI kZ w) → va_S A s.heap H locs → LH ad lsA M.2.2.1 ls → W p l e R s m args below meth c H locs cells slots Z (F0 m pc lsA (st.map (cv ad)))
def Rt (M : MD) (pc : Nat) (r : Option Value) (st : List Value) : Prop :=
  (∃ (v : Int32) (ty : FieldType), r = some (.int v) ∧ st = [.int v] ∧ decode M.2.1 pc = .ok (.ireturn, 1) ∧ M.2.2.2.1 = some ty ∧ narrow ty (.int v) = .int v) ∨ (∃ v : Int64, r = some (.long v) ∧ st = [.long v] ∧ decode M.2.1 pc = .ok (.lreturn, 1) ∧ M.2.2.2.1 = some .long) ∨ (r = none ∧ st = [] ∧ decode M.2.1 pc = .ok (.return_, 1) ∧ M.2.2.2.1 = none)
/-- from pc, with these locals, this stack, this world, the method comes to its end with Q of answer and world -/
def V (M : MD) (pc : Nat) (ls : LsT) (st : List Value) (w : Wd) (Q : Option Value → Wd → Prop) : Prop :=
  ∀ (p : Program) (l : Launch) (e : Env) (R : Room) (s : State) (m : MethodId) (args : Array Value) (below : List Frame) (meth : Method) (c : Code) (ad : Nat → Nat) (kI kZ : ClassId) (D : va_G) (A : Nat → Prop) (cells slots : Nat) (Z : State → Prop),
    Cx M p R s m args meth c kI kZ D A cells slots → (∀ (r : Option Value) (u : Wd) (pc : Nat) (ls : LsT) (st : List Value), Q r u → Rt M pc r st → Sn M pc ls st u p l e R s m args below meth c ad kI kZ D A cells slots Z) →
    Sn M pc ls st w p l e R s m args below meth c ad kI kZ D A cells slots Z
theorem cv_cat (ad : Nat → Nat) (v : Value) : (cv ad v).category = v.category := by cases v <;> rfl
theorem cv_cats (ad : Nat → Nat) (st : List Value) : ((st.map (cv ad)).map fun v => v.category) = st.map fun v => v.category := by rw [List.map_map]; exact List.map_congr_left (fun v _ => cv_cat ad v)
theorem cW_at {ad : Nat → Nat} {kI kZ : ClassId} {w : Wd} {r : Nat} {x : va_E} (h : (cE kI kZ w)[r]? = some x) : (cW ad kI kZ w)[r]? = some (ad r, cvE ad x) := by
  rw [cW, List.getElem?_mapIdx, h]; rfl
theorem cW_set {ad : Nat → Nat} {kI kZ : ClassId} {w u : Wd} {r : Nat} {x : va_E} (h : (cE kI kZ w).set r x = cE kI kZ u) : (cW ad kI kZ w).set r (ad r, cvE ad x) = cW ad kI kZ u := by
  rw [cW, cW, ← h]
  apply List.ext_getElem?
  intro i
  rw [List.getElem?_mapIdx, List.getElem?_set, List.getElem?_set, List.getElem?_mapIdx, List.length_mapIdx]
  by_cases hi : r = i
  · subst hi
    rw [if_pos rfl, if_pos rfl]
    by_cases hl : r < (cE kI kZ w).length
    · rw [if_pos hl, if_pos hl]; rfl
    · rw [if_neg hl, if_neg hl]; rfl
  · rw [if_neg hi, if_neg hi]
theorem V.mono {M : MD} {pc : Nat} {ls : LsT} {st : List Value} {w : Wd} {Q Q' : Option Value → Wd → Prop} (h : V M pc ls st w Q) (hq : ∀ r u, Q r u → Q' r u) : V M pc ls st w Q' :=
  fun p l e R s m args below meth c ad kI kZ D A cells slots Z C F => h p l e R s m args below meth c ad kI kZ D A cells slots Z C (fun r u pc ls st q => F r u pc ls st (hq r u q))
/-- fewer locals known -/
theorem V.less {M : MD} {pc : Nat} {ls ls' : LsT} {st : List Value} {w : Wd} {Q : Option Value → Wd → Prop} (h : V M pc ls' st w Q) (hl : ∀ (i : Nat) (v : Value), ls'[i]? = some (some v) → ls[i]? = some (some v)) : V M pc ls st w Q :=
  fun p l e R s m args below meth c ad kI kZ D A cells slots Z C F H locs lsA hP hD hS hL => h p l e R s m args below meth c ad kI kZ D A cells slots Z C F H locs lsA hP hD hS ⟨hL.1, hL.2.1, fun i v hv => hL.2.2 i v (hl i v hv)⟩
theorem V.forget {M : MD} {pc : Nat} {ls : LsT} {st : List Value} {w : Wd} {Q : Option Value → Wd → Prop} (k : Nat) (h : V M pc (ls.set k none) st w Q) : V M pc ls st w Q := h.less (fun i v hv => by
  rw [List.getElem?_set] at hv
  by_cases hi : k = i
  · rw [if_pos hi] at hv
    split at hv <;> cases hv
  · rw [if_neg hi] at hv; exact hv)
def eL : List Value → LsT
  | [] => []
  | v :: vs => if v.category = 2 then some v :: none :: eL vs else some v :: eL vs
def eP (n : Nat) (vs : List Value) : LsT := eL vs ++ List.replicate (n - (eL vs).length) none
theorem eL_in (ad : Nat → Nat) : ∀ (vs : List Value) (k i : Nat) (v : Value), (eL vs)[i]? = some (some v) → (k + i, cv ad v) ∈ lv_args k (vs.map (cv ad))
  | [], k, i, v, h => by simp [eL] at h
  | u :: vs, k, i, v, h => by
    simp only [List.map_cons, lv_args, cv_cat]
    by_cases hc : u.category = 2
    · rw [if_pos hc]
      simp only [eL, if_pos hc] at h
      match i, h with
      | 0, h => simp at h; subst h; exact List.mem_cons_self
      | 1, h => simp at h
      | i + 2, h => exact List.mem_cons_of_mem _ (by have := eL_in ad vs (k + 2) i v (by simpa using h); rwa [show k + (i + 2) = k + 2 + i by omega])
    · rw [if_neg hc]
      simp only [eL, if_neg hc] at h
      match i, h with
      | 0, h => simp at h; subst h; exact List.mem_cons_self
      | i + 1, h => exact List.mem_cons_of_mem _ (by have := eL_in ad vs (k + 1) i v (by simpa using h); rwa [show k + (i + 1) = k + 1 + i by omega])
theorem eL_len : ∀ (ad : Nat → Nat) (vs : List Value), (lg_sl (vs.map (cv ad))).length = (eL vs).length
  | _, [] => rfl
  | ad, u :: vs => by
    have ih := eL_len ad vs
    simp only [lg_sl, List.map_cons, List.flatMap_cons, List.length_append, cv_cat] at ih ⊢
    by_cases hc : u.category = 2
    · rw [if_pos hc]; simp only [eL, if_pos hc, List.length_cons, List.length_nil, ih]; omega
    · rw [if_neg hc]; simp only [eL, if_neg hc, List.length_cons, List.length_nil, ih]; omega
theorem LH_entry {ad : Nat → Nat} {vs : List Value} {n : Nat} (h : (eL vs).length ≤ n) : LH ad ((lg_sl (vs.map (cv ad)) ++ List.replicate (n - (lg_sl (vs.map (cv ad))).length) Slot.unset).toArray) n (eP n vs) := by
  have hl := lv_entry (vs.map (cv ad)) (n := n) (by rw [eL_len]; exact h)
  refine ⟨hl.1, hl.2.1, fun i v hv => ?_⟩
  rw [eP, List.getElem?_append] at hv
  by_cases hi : i < (eL vs).length
  · rw [if_pos hi] at hv
    have := eL_in ad vs 0 i v hv
    rw [Nat.zero_add] at this
    exact hl.2.2 _ this
  · rw [if_neg hi] at hv
    have h2 := List.eq_of_mem_replicate (List.mem_of_getElem? hv)
    cases h2
/-- the locals as the kit lists them -/
def lvl (ad : Nat → Nat) (ls : LsT) : List (Nat × Value) := (List.range ls.length).filterMap (fun i => (ls[i]?.getD none).map (fun v => (i, cv ad v)))
theorem lvl_in {ad : Nat → Nat} {ls : LsT} {q : Nat × Value} : q ∈ lvl ad ls ↔ ∃ v, ls[q.1]? = some (some v) ∧ q.2 = cv ad v := by
  unfold lvl
  rw [List.mem_filterMap]
  constructor
  · rintro ⟨i, -, h⟩
    cases hi : ls[i]? with
    | none => rw [hi] at h; simp at h
    | some o =>
      cases o with
      | none => rw [hi] at h; simp at h
      | some v => rw [hi] at h; simp at h; exact ⟨v, by rw [← h]; exact hi, by rw [← h]⟩
  · rintro ⟨v, h1, h2⟩
    have hlt := (List.getElem?_eq_some_iff.mp h1).1
    exact ⟨q.1, List.mem_range.mpr hlt, by rw [h1]; simp [← h2]⟩
theorem LH.has {ad : Nat → Nat} {lsA : Array Slot} {nL : Nat} {ls : LsT} (h : LH ad lsA nL ls) : lv_has lsA nL (lvl ad ls) :=
  ⟨h.1, h.2.1, fun q hq => by obtain ⟨v, h1, h2⟩ := lvl_in.mp hq; rw [h.2.2 q.1 v h1, h2]⟩
/-- no long begins just before k -/
def okv (x : Option Value) : Bool := match x with
  | some v => v.category != 2
  | none => true
def okp (ls : LsT) (k : Nat) : Bool := match k with
  | 0 => true
  | k + 1 => okv (ls[k]?.getD none)
theorem LH.set1 {ad : Nat → Nat} {lsB : Array Slot} {nL k : Nat} {ls : LsT} {v : Value} (hk : okp ls k = true) (h : lv_has lsB nL ((k, cv ad v) :: (lvl ad ls).filter (fun q => !(q.1 == k) && !(q.1 + 1 == k && q.2.category == 2)))) : LH ad lsB nL (ls.set k (some v)) := by
  refine ⟨h.1, h.2.1, fun i x hx => ?_⟩
  rw [List.getElem?_set] at hx
  by_cases hi : k = i
  · subst hi
    rw [if_pos rfl] at hx
    split at hx
    · cases hx; exact h.2.2 _ List.mem_cons_self
    · cases hx
  · rw [if_neg hi] at hx
    refine h.2.2 (i, cv ad x) (List.mem_cons_of_mem _ (List.mem_filter.mpr ⟨lvl_in.mpr ⟨x, hx, rfl⟩, ?_⟩))
    have h1 : ¬ i = k := fun q => hi q.symm
    simp only [beq_eq_false_iff_ne.mpr h1, Bool.not_false, Bool.true_and, Bool.not_eq_true', Bool.and_eq_false_iff]
    by_cases h2 : i + 1 = k
    · right
      subst h2
      simp only [okp, hx, Option.getD_some, okv, bne_iff_ne] at hk
      simp only [cv_cat]
      simpa using hk
    · left; simpa using h2
theorem LH.set2 {ad : Nat → Nat} {lsB : Array Slot} {nL k : Nat} {ls : LsT} {v : Value} (hk : okp ls k = true) (h : lv_has lsB nL ((k, cv ad v) :: (lvl ad ls).filter (fun q => !(q.1 == k) && (!(q.1 == k + 1) && !(q.1 + 1 == k && q.2.category == 2))))) : LH ad lsB nL ((ls.set k (some v)).set (k + 1) none) := by
  refine ⟨h.1, h.2.1, fun i x hx => ?_⟩
  rw [List.getElem?_set, List.getElem?_set] at hx
  by_cases h1 : k + 1 = i
  · rw [if_pos h1] at hx
    split at hx <;> cases hx
  · rw [if_neg h1] at hx
    by_cases hi : k = i
    · subst hi
      rw [if_pos rfl] at hx
      split at hx
      · cases hx; exact h.2.2 _ List.mem_cons_self
      · cases hx
    · rw [if_neg hi] at hx
      refine h.2.2 (i, cv ad x) (List.mem_cons_of_mem _ (List.mem_filter.mpr ⟨lvl_in.mpr ⟨x, hx, rfl⟩, ?_⟩))
      have e1 : ¬ i = k := fun q => hi q.symm
      have e2 : ¬ i = k + 1 := fun q => h1 q.symm
      simp only [beq_eq_false_iff_ne.mpr e1, beq_eq_false_iff_ne.mpr e2, Bool.not_false, Bool.true_and, Bool.not_eq_true', Bool.and_eq_false_iff]
      by_cases h2 : i + 1 = k
      · right
        subst h2
        simp only [okp, hx, Option.getD_some, okv, bne_iff_ne] at hk
        simp only [cv_cat]
        simpa using hk
      · left; simpa using h2

section VR
variable {M : MD} {pc : Nat} {ls : LsT} {st : List Value} {w : Wd} {Q : Option Value → Wd → Prop}
theorem v_iadd {x y : Int32} (n : Nat) (hd : decode M.2.1 pc = .ok (.iadd, 1)) (hn : pc + 1 = n)  (h : V M n ls (.int (x + y) :: st) w Q) : V M pc ls (.int y :: .int x :: st) w Q := by
  subst hn
  intro p l e R s m args below meth c ad kI kZ D A cells slots Z C F H locs lsA hP hD hS hL
  exact lv_iadd C.1 C.2.1 hd  (h p l e R s m args below meth c ad kI kZ D A cells slots Z C F H locs lsA hP hD hS hL)
theorem v_isub {x y : Int32} (n : Nat) (hd : decode M.2.1 pc = .ok (.isub, 1)) (hn : pc + 1 = n)  (h : V M n ls (.int (x - y) :: st) w Q) : V M pc ls (.int y :: .int x :: st) w Q := by
  subst hn
  intro p l e R s m args below meth c ad kI kZ D A cells slots Z C F H locs lsA hP hD hS hL
  exact lv_isub C.1 C.2.1 hd  (h p l e R s m args below meth c ad kI kZ D A cells slots Z C F H locs lsA hP hD hS hL)
theorem v_imul {x y : Int32} (n : Nat) (hd : decode M.2.1 pc = .ok (.imul, 1)) (hn : pc + 1 = n)  (h : V M n ls (.int (x * y) :: st) w Q) : V M pc ls (.int y :: .int x :: st) w Q := by
  subst hn
  intro p l e R s m args below meth c ad kI kZ D A cells slots Z C F H locs lsA hP hD hS hL
  exact lv_imul C.1 C.2.1 hd  (h p l e R s m args below meth c ad kI kZ D A cells slots Z C F H locs lsA hP hD hS hL)
theorem v_iand {x y : Int32} (n : Nat) (hd : decode M.2.1 pc = .ok (.iand, 1)) (hn : pc + 1 = n)  (h : V M n ls (.int (x &&& y) :: st) w Q) : V M pc ls (.int y :: .int x :: st) w Q := by
  subst hn
  intro p l e R s m args below meth c ad kI kZ D A cells slots Z C F H locs lsA hP hD hS hL
  exact lv_iand C.1 C.2.1 hd  (h p l e R s m args below meth c ad kI kZ D A cells slots Z C F H locs lsA hP hD hS hL)
theorem v_ior {x y : Int32} (n : Nat) (hd : decode M.2.1 pc = .ok (.ior, 1)) (hn : pc + 1 = n)  (h : V M n ls (.int (x ||| y) :: st) w Q) : V M pc ls (.int y :: .int x :: st) w Q := by
  subst hn
  intro p l e R s m args below meth c ad kI kZ D A cells slots Z C F H locs lsA hP hD hS hL
  exact lv_ior C.1 C.2.1 hd  (h p l e R s m args below meth c ad kI kZ D A cells slots Z C F H locs lsA hP hD hS hL)
theorem v_ixor {x y : Int32} (n : Nat) (hd : decode M.2.1 pc = .ok (.ixor, 1)) (hn : pc + 1 = n)  (h : V M n ls (.int (x ^^^ y) :: st) w Q) : V M pc ls (.int y :: .int x :: st) w Q := by
  subst hn
  intro p l e R s m args below meth c ad kI kZ D A cells slots Z C F H locs lsA hP hD hS hL
  exact lv_ixor C.1 C.2.1 hd  (h p l e R s m args below meth c ad kI kZ D A cells slots Z C F H locs lsA hP hD hS hL)
theorem v_ishl {x y : Int32} (n : Nat) (hd : decode M.2.1 pc = .ok (.ishl, 1)) (hn : pc + 1 = n)  (h : V M n ls (.int (x <<< (y &&& 31)) :: st) w Q) : V M pc ls (.int y :: .int x :: st) w Q := by
  subst hn
  intro p l e R s m args below meth c ad kI kZ D A cells slots Z C F H locs lsA hP hD hS hL
  exact lv_ishl C.1 C.2.1 hd  (h p l e R s m args below meth c ad kI kZ D A cells slots Z C F H locs lsA hP hD hS hL)
theorem v_ishr {x y : Int32} (n : Nat) (hd : decode M.2.1 pc = .ok (.ishr, 1)) (hn : pc + 1 = n)  (h : V M n ls (.int (x >>> (y &&& 31)) :: st) w Q) : V M pc ls (.int y :: .int x :: st) w Q := by
  subst hn
  intro p l e R s m args below meth c ad kI kZ D A cells slots Z C F H locs lsA hP hD hS hL
  exact lv_ishr C.1 C.2.1 hd  (h p l e R s m args below meth c ad kI kZ D A cells slots Z C F H locs lsA hP hD hS hL)
theorem v_idiv {x y : Int32} (n : Nat) (hd : decode M.2.1 pc = .ok (.idiv, 1)) (hn : pc + 1 = n) (hne : ¬ y = 0) (h : V M n ls (.int (x / y) :: st) w Q) : V M pc ls (.int y :: .int x :: st) w Q := by
  subst hn
  intro p l e R s m args below meth c ad kI kZ D A cells slots Z C F H locs lsA hP hD hS hL
  exact lv_idiv C.1 C.2.1 hd hne (h p l e R s m args below meth c ad kI kZ D A cells slots Z C F H locs lsA hP hD hS hL)
theorem v_irem {x y : Int32} (n : Nat) (hd : decode M.2.1 pc = .ok (.irem, 1)) (hn : pc + 1 = n) (hne : ¬ y = 0) (h : V M n ls (.int (x - x / y * y) :: st) w Q) : V M pc ls (.int y :: .int x :: st) w Q := by
  subst hn
  intro p l e R s m args below meth c ad kI kZ D A cells slots Z C F H locs lsA hP hD hS hL
  exact lv_irem C.1 C.2.1 hd hne (h p l e R s m args below meth c ad kI kZ D A cells slots Z C F H locs lsA hP hD hS hL)
theorem v_ladd {x y : Int64} (n : Nat) (hd : decode M.2.1 pc = .ok (.ladd, 1)) (hn : pc + 1 = n)  (h : V M n ls (.long (x + y) :: st) w Q) : V M pc ls (.long y :: .long x :: st) w Q := by
  subst hn
  intro p l e R s m args below meth c ad kI kZ D A cells slots Z C F H locs lsA hP hD hS hL
  exact lv_ladd C.1 C.2.1 hd  (h p l e R s m args below meth c ad kI kZ D A cells slots Z C F H locs lsA hP hD hS hL)
theorem v_lsub {x y : Int64} (n : Nat) (hd : decode M.2.1 pc = .ok (.lsub, 1)) (hn : pc + 1 = n)  (h : V M n ls (.long (x - y) :: st) w Q) : V M pc ls (.long y :: .long x :: st) w Q := by
  subst hn
  intro p l e R s m args below meth c ad kI kZ D A cells slots Z C F H locs lsA hP hD hS hL
  exact lv_lsub C.1 C.2.1 hd  (h p l e R s m args below meth c ad kI kZ D A cells slots Z C F H locs lsA hP hD hS hL)
theorem v_lmul {x y : Int64} (n : Nat) (hd : decode M.2.1 pc = .ok (.lmul, 1)) (hn : pc + 1 = n)  (h : V M n ls (.long (x * y) :: st) w Q) : V M pc ls (.long y :: .long x :: st) w Q := by
  subst hn
  intro p l e R s m args below meth c ad kI kZ D A cells slots Z C F H locs lsA hP hD hS hL
  exact lv_lmul C.1 C.2.1 hd  (h p l e R s m args below meth c ad kI kZ D A cells slots Z C F H locs lsA hP hD hS hL)
theorem v_land {x y : Int64} (n : Nat) (hd : decode M.2.1 pc = .ok (.land, 1)) (hn : pc + 1 = n)  (h : V M n ls (.long (x &&& y) :: st) w Q) : V M pc ls (.long y :: .long x :: st) w Q := by
  subst hn
  intro p l e R s m args below meth c ad kI kZ D A cells slots Z C F H locs lsA hP hD hS hL
  exact lv_land C.1 C.2.1 hd  (h p l e R s m args below meth c ad kI kZ D A cells slots Z C F H locs lsA hP hD hS hL)
theorem v_lor {x y : Int64} (n : Nat) (hd : decode M.2.1 pc = .ok (.lor, 1)) (hn : pc + 1 = n)  (h : V M n ls (.long (x ||| y) :: st) w Q) : V M pc ls (.long y :: .long x :: st) w Q := by
  subst hn
  intro p l e R s m args below meth c ad kI kZ D A cells slots Z C F H locs lsA hP hD hS hL
  exact lv_lor C.1 C.2.1 hd  (h p l e R s m args below meth c ad kI kZ D A cells slots Z C F H locs lsA hP hD hS hL)
theorem v_ldiv {x y : Int64} (n : Nat) (hd : decode M.2.1 pc = .ok (.ldiv, 1)) (hn : pc + 1 = n) (hne : ¬ y = 0) (h : V M n ls (.long (x / y) :: st) w Q) : V M pc ls (.long y :: .long x :: st) w Q := by
  subst hn
  intro p l e R s m args below meth c ad kI kZ D A cells slots Z C F H locs lsA hP hD hS hL
  exact lv_ldiv C.1 C.2.1 hd hne (h p l e R s m args below meth c ad kI kZ D A cells slots Z C F H locs lsA hP hD hS hL)
theorem v_lrem {x y : Int64} (n : Nat) (hd : decode M.2.1 pc = .ok (.lrem, 1)) (hn : pc + 1 = n) (hne : ¬ y = 0) (h : V M n ls (.long (x - x / y * y) :: st) w Q) : V M pc ls (.long y :: .long x :: st) w Q := by
  subst hn
  intro p l e R s m args below meth c ad kI kZ D A cells slots Z C F H locs lsA hP hD hS hL
  exact lv_lrem C.1 C.2.1 hd hne (h p l e R s m args below meth c ad kI kZ D A cells slots Z C F H locs lsA hP hD hS hL)
theorem v_lneg {x : Int64} (n : Nat) (hd : decode M.2.1 pc = .ok (.lneg, 1)) (hn : pc + 1 = n)  (h : V M n ls (.long (-x) :: st) w Q) : V M pc ls (.long x :: st) w Q := by
  subst hn
  intro p l e R s m args below meth c ad kI kZ D A cells slots Z C F H locs lsA hP hD hS hL
  exact lv_lneg C.1 C.2.1 hd  (h p l e R s m args below meth c ad kI kZ D A cells slots Z C F H locs lsA hP hD hS hL)
theorem v_iushr {x y : Int32} (n : Nat) (hd : decode M.2.1 pc = .ok (.iushr, 1)) (hn : pc + 1 = n)  (h : V M n ls (.int ((x.toUInt32 >>> (y.toUInt32 &&& Int32.toUInt32 31)).toInt32) :: st) w Q) : V M pc ls (.int y :: .int x :: st) w Q := by
  subst hn
  intro p l e R s m args below meth c ad kI kZ D A cells slots Z C F H locs lsA hP hD hS hL
  exact lv_iushr C.1 C.2.1 hd rfl (h p l e R s m args below meth c ad kI kZ D A cells slots Z C F H locs lsA hP hD hS hL)
theorem v_lushr {x : Int64} {y : Int32} (n : Nat) (hd : decode M.2.1 pc = .ok (.lushr, 1)) (hn : pc + 1 = n)  (h : V M n ls (.long ((x.toUInt64 >>> (y.toInt64.toUInt64 &&& Int64.toUInt64 63)).toInt64) :: st) w Q) : V M pc ls (.int y :: .long x :: st) w Q := by
  subst hn
  intro p l e R s m args below meth c ad kI kZ D A cells slots Z C F H locs lsA hP hD hS hL
  exact lv_lushr C.1 C.2.1 hd rfl (h p l e R s m args below meth c ad kI kZ D A cells slots Z C F H locs lsA hP hD hS hL)
theorem v_lshl {x : Int64} {y : Int32} (n : Nat) (hd : decode M.2.1 pc = .ok (.lshl, 1)) (hn : pc + 1 = n)  (h : V M n ls (.long (x <<< (y.toInt64 &&& 63)) :: st) w Q) : V M pc ls (.int y :: .long x :: st) w Q := by
  subst hn
  intro p l e R s m args below meth c ad kI kZ D A cells slots Z C F H locs lsA hP hD hS hL
  exact lv_lshl C.1 C.2.1 hd rfl (h p l e R s m args below meth c ad kI kZ D A cells slots Z C F H locs lsA hP hD hS hL)
theorem v_i2l {x : Int32} (n : Nat) (hd : decode M.2.1 pc = .ok (.i2l, 1)) (hn : pc + 1 = n)  (h : V M n ls (.long (x.toInt64) :: st) w Q) : V M pc ls (.int x :: st) w Q := by
  subst hn
  intro p l e R s m args below meth c ad kI kZ D A cells slots Z C F H locs lsA hP hD hS hL
  exact lv_i2l C.1 C.2.1 hd rfl (h p l e R s m args below meth c ad kI kZ D A cells slots Z C F H locs lsA hP hD hS hL)
theorem v_l2i {x : Int64} (n : Nat) (hd : decode M.2.1 pc = .ok (.l2i, 1)) (hn : pc + 1 = n)  (h : V M n ls (.int (x.toInt32) :: st) w Q) : V M pc ls (.long x :: st) w Q := by
  subst hn
  intro p l e R s m args below meth c ad kI kZ D A cells slots Z C F H locs lsA hP hD hS hL
  exact lv_l2i C.1 C.2.1 hd rfl (h p l e R s m args below meth c ad kI kZ D A cells slots Z C F H locs lsA hP hD hS hL)
theorem v_lcmp {x y : Int64} (n : Nat) (hd : decode M.2.1 pc = .ok (.lcmp, 1)) (hn : pc + 1 = n)  (h : V M n ls (.int (lg_cmp x y) :: st) w Q) : V M pc ls (.long y :: .long x :: st) w Q := by
  subst hn
  intro p l e R s m args below meth c ad kI kZ D A cells slots Z C F H locs lsA hP hD hS hL
  exact W.lcmp C.1 C.2.1 hd  (h p l e R s m args below meth c ad kI kZ D A cells slots Z C F H locs lsA hP hD hS hL)
theorem v_iconst {v : Int32} {z : Int} (n : Nat) (hd : decode M.2.1 pc = .ok (.iconst z, 1)) (hn : pc + 1 = n) (hv : Int32.ofInt z = v) (h : V M n ls (.int v :: st) w Q) : V M pc ls (st) w Q := by
  subst hn
  intro p l e R s m args below meth c ad kI kZ D A cells slots Z C F H locs lsA hP hD hS hL
  exact lv_iconst C.1 C.2.1 hd hv (h p l e R s m args below meth c ad kI kZ D A cells slots Z C F H locs lsA hP hD hS hL)
theorem v_bipush {v : Int32} {z : Int} (n : Nat) (hd : decode M.2.1 pc = .ok (.bipush z, 2)) (hn : pc + 2 = n) (hv : (Int8.ofInt z).toInt32 = v) (h : V M n ls (.int v :: st) w Q) : V M pc ls (st) w Q := by
  subst hn
  intro p l e R s m args below meth c ad kI kZ D A cells slots Z C F H locs lsA hP hD hS hL
  exact lv_bipush C.1 C.2.1 hd hv (h p l e R s m args below meth c ad kI kZ D A cells slots Z C F H locs lsA hP hD hS hL)
theorem v_sipush {v : Int32} {z : Int} (n : Nat) (hd : decode M.2.1 pc = .ok (.sipush z, 3)) (hn : pc + 3 = n) (hv : (Int16.ofInt z).toInt32 = v) (h : V M n ls (.int v :: st) w Q) : V M pc ls (st) w Q := by
  subst hn
  intro p l e R s m args below meth c ad kI kZ D A cells slots Z C F H locs lsA hP hD hS hL
  exact lv_sipush C.1 C.2.1 hd hv (h p l e R s m args below meth c ad kI kZ D A cells slots Z C F H locs lsA hP hD hS hL)
theorem v_lconst {v : Int64} {z : Fin 2} (n : Nat) (hd : decode M.2.1 pc = .ok (.lconst z, 1)) (hn : pc + 1 = n) (hv : Int64.ofNat (z : Nat) = v) (h : V M n ls (.long v :: st) w Q) : V M pc ls (st) w Q := by
  subst hn
  intro p l e R s m args below meth c ad kI kZ D A cells slots Z C F H locs lsA hP hD hS hL
  exact lv_lconst C.1 C.2.1 hd hv (h p l e R s m args below meth c ad kI kZ D A cells slots Z C F H locs lsA hP hD hS hL)
theorem v_ldc2 {v : Int64} {ix : Nat} (n : Nat) (hd : decode M.2.1 pc = .ok (.ldc2_w ix, 3)) (hn : pc + 3 = n) (hv : Cond.constantLong M.1 ix v ∈ TG) (h : V M n ls (.long v :: st) w Q) : V M pc ls (st) w Q := by
  subst hn
  intro p l e R s m args below meth c ad kI kZ D A cells slots Z C F H locs lsA hP hD hS hL
  exact lv_ldc2 C.1 C.2.1 C.2.2.2.1 (C.2.2.2.2.1 _ hv) hd (h p l e R s m args below meth c ad kI kZ D A cells slots Z C F H locs lsA hP hD hS hL)
theorem v_ldcw {v : Int32} {ix : Nat} (n : Nat) (hd : decode M.2.1 pc = .ok (.ldc_w ix, 3)) (hn : pc + 3 = n) (hv : Cond.constant M.1 ix v ∈ TG) (h : V M n ls (.int v :: st) w Q) : V M pc ls (st) w Q := by
  subst hn
  intro p l e R s m args below meth c ad kI kZ D A cells slots Z C F H locs lsA hP hD hS hL
  exact lv_ldcw C.1 C.2.1 C.2.2.2.1 (C.2.2.2.2.1 _ hv) hd (h p l e R s m args below meth c ad kI kZ D A cells slots Z C F H locs lsA hP hD hS hL)
theorem v_dup {x : Value} (n : Nat) (hd : decode M.2.1 pc = .ok (.dup, 1)) (hn : pc + 1 = n) (hx : x.category = 1) (h : V M n ls (x :: x :: st) w Q) : V M pc ls (x :: st) w Q := by
  subst hn
  intro p l e R s m args below meth c ad kI kZ D A cells slots Z C F H locs lsA hP hD hS hL
  exact lv_dup C.1 C.2.1 hd ((cv_cat _ _).trans hx) (h p l e R s m args below meth c ad kI kZ D A cells slots Z C F H locs lsA hP hD hS hL)
theorem v_pop {x : Value} (n : Nat) (hd : decode M.2.1 pc = .ok (.pop, 1)) (hn : pc + 1 = n) (hx : x.category = 1) (h : V M n ls (st) w Q) : V M pc ls (x :: st) w Q := by
  subst hn
  intro p l e R s m args below meth c ad kI kZ D A cells slots Z C F H locs lsA hP hD hS hL
  exact lv_pop C.1 C.2.1 hd ((cv_cat _ _).trans hx) (h p l e R s m args below meth c ad kI kZ D A cells slots Z C F H locs lsA hP hD hS hL)
theorem v_dup2 {x y : Value} (n : Nat) (hd : decode M.2.1 pc = .ok (.dup2, 1)) (hn : pc + 1 = n) (hx : x.category = 1) (hy : y.category = 1) (h : V M n ls (x :: y :: x :: y :: st) w Q) : V M pc ls (x :: y :: st) w Q := by
  subst hn
  intro p l e R s m args below meth c ad kI kZ D A cells slots Z C F H locs lsA hP hD hS hL
  exact lv_dup2_11 C.1 C.2.1 hd ((cv_cat _ _).trans hx) ((cv_cat _ _).trans hy) (h p l e R s m args below meth c ad kI kZ D A cells slots Z C F H locs lsA hP hD hS hL)
theorem v_dup2l {x : Value} (n : Nat) (hd : decode M.2.1 pc = .ok (.dup2, 1)) (hn : pc + 1 = n) (hx : x.category = 2) (h : V M n ls (x :: x :: st) w Q) : V M pc ls (x :: st) w Q := by
  subst hn
  intro p l e R s m args below meth c ad kI kZ D A cells slots Z C F H locs lsA hP hD hS hL
  exact lv_dup2_2 C.1 C.2.1 hd ((cv_cat _ _).trans hx) (h p l e R s m args below meth c ad kI kZ D A cells slots Z C F H locs lsA hP hD hS hL)
theorem v_iload_n {x : Int32} {k : Fin 4} (n : Nat) (hd : decode M.2.1 pc = .ok (.iload_n k, 1)) (hn : pc + 1 = n) (hx : ls[(k : Nat)]? = some (some (.int x))) (h : V M n ls (.int x :: st) w Q) : V M pc ls (st) w Q := by
  subst hn
  intro p l e R s m args below meth c ad kI kZ D A cells slots Z C F H locs lsA hP hD hS hL
  exact lv_iload_n C.1 C.2.1 hd rfl (hL.2.2 _ _ hx) (h p l e R s m args below meth c ad kI kZ D A cells slots Z C F H locs lsA hP hD hS hL)
theorem v_iload {x : Int32} {k : Nat} (n : Nat) (hd : decode M.2.1 pc = .ok (.iload k, 2)) (hn : pc + 2 = n) (hx : ls[k]? = some (some (.int x))) (h : V M n ls (.int x :: st) w Q) : V M pc ls (st) w Q := by
  subst hn
  intro p l e R s m args below meth c ad kI kZ D A cells slots Z C F H locs lsA hP hD hS hL
  exact lv_iload C.1 C.2.1 hd (hL.2.2 _ _ hx) (h p l e R s m args below meth c ad kI kZ D A cells slots Z C F H locs lsA hP hD hS hL)
theorem v_lload_n {x : Int64} {k : Fin 4} (n : Nat) (hd : decode M.2.1 pc = .ok (.lload_n k, 1)) (hn : pc + 1 = n) (hx : ls[(k : Nat)]? = some (some (.long x))) (h : V M n ls (.long x :: st) w Q) : V M pc ls (st) w Q := by
  subst hn
  intro p l e R s m args below meth c ad kI kZ D A cells slots Z C F H locs lsA hP hD hS hL
  exact lv_lload_n C.1 C.2.1 hd rfl (hL.2.2 _ _ hx) (h p l e R s m args below meth c ad kI kZ D A cells slots Z C F H locs lsA hP hD hS hL)
theorem v_lload {x : Int64} {k : Nat} (n : Nat) (hd : decode M.2.1 pc = .ok (.lload k, 2)) (hn : pc + 2 = n) (hx : ls[k]? = some (some (.long x))) (h : V M n ls (.long x :: st) w Q) : V M pc ls (st) w Q := by
  subst hn
  intro p l e R s m args below meth c ad kI kZ D A cells slots Z C F H locs lsA hP hD hS hL
  exact lv_lload C.1 C.2.1 hd (hL.2.2 _ _ hx) (h p l e R s m args below meth c ad kI kZ D A cells slots Z C F H locs lsA hP hD hS hL)
theorem v_aload_n {x : Nat} {k : Fin 4} (n : Nat) (hd : decode M.2.1 pc = .ok (.aload_n k, 1)) (hn : pc + 1 = n) (hx : ls[(k : Nat)]? = some (some (.ref x))) (h : V M n ls (.ref x :: st) w Q) : V M pc ls (st) w Q := by
  subst hn
  intro p l e R s m args below meth c ad kI kZ D A cells slots Z C F H locs lsA hP hD hS hL
  exact lv_aload_n C.1 C.2.1 hd rfl (hL.2.2 _ _ hx) (h p l e R s m args below meth c ad kI kZ D A cells slots Z C F H locs lsA hP hD hS hL)
theorem v_aload {x : Nat} {k : Nat} (n : Nat) (hd : decode M.2.1 pc = .ok (.aload k, 2)) (hn : pc + 2 = n) (hx : ls[k]? = some (some (.ref x))) (h : V M n ls (.ref x :: st) w Q) : V M pc ls (st) w Q := by
  subst hn
  intro p l e R s m args below meth c ad kI kZ D A cells slots Z C F H locs lsA hP hD hS hL
  exact lv_aload C.1 C.2.1 hd (hL.2.2 _ _ hx) (h p l e R s m args below meth c ad kI kZ D A cells slots Z C F H locs lsA hP hD hS hL)
theorem v_istore_n {x : Int32} {k : Fin 4} {ls2 : LsT} (n : Nat) (hd : decode M.2.1 pc = .ok (.istore_n k, 1)) (hn : pc + 1 = n) (hb : (k : Nat) < M.2.2.1) (hk : okp ls (k : Nat) = true) (hl : ls.set (k : Nat) (some (.int x)) = ls2) (h : V M n ls2 st w Q) : V M pc ls (.int x :: st) w Q := by
  subst hn; subst hl
  intro p l e R s m args below meth c ad kI kZ D A cells slots Z C F H locs lsA hP hD hS hL
  exact lv_istore_n C.1 C.2.1 hd rfl hL.has hb rfl (fun lsB hB => h p l e R s m args below meth c ad kI kZ D A cells slots Z C F H locs lsB hP hD hS (LH.set1 (v := .int x) hk hB))
theorem v_istore {x : Int32} {k : Nat} {ls2 : LsT} (n : Nat) (hd : decode M.2.1 pc = .ok (.istore k, 2)) (hn : pc + 2 = n) (hb : (k : Nat) < M.2.2.1) (hk : okp ls (k : Nat) = true) (hl : ls.set (k : Nat) (some (.int x)) = ls2) (h : V M n ls2 st w Q) : V M pc ls (.int x :: st) w Q := by
  subst hn; subst hl
  intro p l e R s m args below meth c ad kI kZ D A cells slots Z C F H locs lsA hP hD hS hL
  exact lv_istore C.1 C.2.1 hd  hL.has hb rfl (fun lsB hB => h p l e R s m args below meth c ad kI kZ D A cells slots Z C F H locs lsB hP hD hS (LH.set1 (v := .int x) hk hB))
theorem v_astore_n {x : Nat} {k : Fin 4} {ls2 : LsT} (n : Nat) (hd : decode M.2.1 pc = .ok (.astore_n k, 1)) (hn : pc + 1 = n) (hb : (k : Nat) < M.2.2.1) (hk : okp ls (k : Nat) = true) (hl : ls.set (k : Nat) (some (.ref x)) = ls2) (h : V M n ls2 st w Q) : V M pc ls (.ref x :: st) w Q := by
  subst hn; subst hl
  intro p l e R s m args below meth c ad kI kZ D A cells slots Z C F H locs lsA hP hD hS hL
  exact lv_astore_n C.1 C.2.1 hd rfl hL.has hb rfl (fun lsB hB => h p l e R s m args below meth c ad kI kZ D A cells slots Z C F H locs lsB hP hD hS (LH.set1 (v := .ref x) hk hB))
theorem v_astore {x : Nat} {k : Nat} {ls2 : LsT} (n : Nat) (hd : decode M.2.1 pc = .ok (.astore k, 2)) (hn : pc + 2 = n) (hb : (k : Nat) < M.2.2.1) (hk : okp ls (k : Nat) = true) (hl : ls.set (k : Nat) (some (.ref x)) = ls2) (h : V M n ls2 st w Q) : V M pc ls (.ref x :: st) w Q := by
  subst hn; subst hl
  intro p l e R s m args below meth c ad kI kZ D A cells slots Z C F H locs lsA hP hD hS hL
  exact lv_astore C.1 C.2.1 hd  hL.has hb rfl (fun lsB hB => h p l e R s m args below meth c ad kI kZ D A cells slots Z C F H locs lsB hP hD hS (LH.set1 (v := .ref x) hk hB))
theorem v_lstore_n {x : Int64} {k : Fin 4} {ls2 : LsT} (n : Nat) (hd : decode M.2.1 pc = .ok (.lstore_n k, 1)) (hn : pc + 1 = n) (hb : (k : Nat) + 1 < M.2.2.1) (hk : okp ls (k : Nat) = true) (hl : (ls.set (k : Nat) (some (.long x))).set ((k : Nat) + 1) none = ls2) (h : V M n ls2 st w Q) : V M pc ls (.long x :: st) w Q := by
  subst hn; subst hl
  intro p l e R s m args below meth c ad kI kZ D A cells slots Z C F H locs lsA hP hD hS hL
  exact lv_lstore_n C.1 C.2.1 hd rfl hL.has hb rfl (fun lsB hB => h p l e R s m args below meth c ad kI kZ D A cells slots Z C F H locs lsB hP hD hS (LH.set2 (v := .long x) hk hB))
theorem v_lstore {x : Int64} {k : Nat} {ls2 : LsT} (n : Nat) (hd : decode M.2.1 pc = .ok (.lstore k, 2)) (hn : pc + 2 = n) (hb : (k : Nat) + 1 < M.2.2.1) (hk : okp ls (k : Nat) = true) (hl : (ls.set (k : Nat) (some (.long x))).set ((k : Nat) + 1) none = ls2) (h : V M n ls2 st w Q) : V M pc ls (.long x :: st) w Q := by
  subst hn; subst hl
  intro p l e R s m args below meth c ad kI kZ D A cells slots Z C F H locs lsA hP hD hS hL
  exact lv_lstore C.1 C.2.1 hd  hL.has hb rfl (fun lsB hB => h p l e R s m args below meth c ad kI kZ D A cells slots Z C F H locs lsB hP hD hS (LH.set2 (v := .long x) hk hB))
theorem v_iinc {x v : Int32} {k : Nat} {z : Int} {ls2 : LsT} (n : Nat) (hd : decode M.2.1 pc = .ok (.iinc k z, 3)) (hn : pc + 3 = n) (hx : ls[k]? = some (some (.int x))) (hv : x + Int32.ofInt z = v) (hb : k < M.2.2.1) (hk : okp ls k = true) (hl : ls.set k (some (.int v)) = ls2) (h : V M n ls2 st w Q) : V M pc ls st w Q := by
  subst hn; subst hl
  intro p l e R s m args below meth c ad kI kZ D A cells slots Z C F H locs lsA hP hD hS hL
  obtain ⟨j, hj⟩ := List.getElem?_of_mem (lvl_in.mpr ⟨_, hx, rfl⟩ : (k, cv ad (.int x)) ∈ lvl ad ls)
  exact lv_iinc C.1 C.2.1 hd hL.has hj hv hb rfl (fun lsB hB => h p l e R s m args below meth c ad kI kZ D A cells slots Z C F H locs lsB hP hD hS (LH.set1 (v := .int v) hk hB))
theorem v_if_eq {x : Int32} {off : Int} (t n : Nat) (hd : decode M.2.1 pc = .ok (.ifCond .eq off, 3)) (hn : pc + 3 = n) (ht : (pc : Int) + off = (t : Int)) (h1 : x = 0 → V M t ls st w Q) (h2 : ¬ x = 0 → V M n ls st w Q) : V M pc ls (.int x :: st) w Q := by
  subst hn
  intro p l e R s m args below meth c ad kI kZ D A cells slots Z C F H locs lsA hP hD hS hL
  exact lv_if_eq C.1 C.2.1 hd ht (fun q => h1 q p l e R s m args below meth c ad kI kZ D A cells slots Z C F H locs lsA hP hD hS hL) (fun q => h2 q p l e R s m args below meth c ad kI kZ D A cells slots Z C F H locs lsA hP hD hS hL)
theorem v_icmp_eq {x y : Int32} {off : Int} (t n : Nat) (hd : decode M.2.1 pc = .ok (.if_icmp .eq off, 3)) (hn : pc + 3 = n) (ht : (pc : Int) + off = (t : Int)) (h1 : x = y → V M t ls st w Q) (h2 : ¬ x = y → V M n ls st w Q) : V M pc ls (.int y :: .int x :: st) w Q := by
  subst hn
  intro p l e R s m args below meth c ad kI kZ D A cells slots Z C F H locs lsA hP hD hS hL
  exact lv_icmp_eq C.1 C.2.1 hd ht (fun q => h1 q p l e R s m args below meth c ad kI kZ D A cells slots Z C F H locs lsA hP hD hS hL) (fun q => h2 q p l e R s m args below meth c ad kI kZ D A cells slots Z C F H locs lsA hP hD hS hL)
theorem v_if_ne {x : Int32} {off : Int} (t n : Nat) (hd : decode M.2.1 pc = .ok (.ifCond .ne off, 3)) (hn : pc + 3 = n) (ht : (pc : Int) + off = (t : Int)) (h1 : ¬ x = 0 → V M t ls st w Q) (h2 : x = 0 → V M n ls st w Q) : V M pc ls (.int x :: st) w Q := by
  subst hn
  intro p l e R s m args below meth c ad kI kZ D A cells slots Z C F H locs lsA hP hD hS hL
  exact lv_if_ne C.1 C.2.1 hd ht (fun q => h1 q p l e R s m args below meth c ad kI kZ D A cells slots Z C F H locs lsA hP hD hS hL) (fun q => h2 (by simpa using q) p l e R s m args below meth c ad kI kZ D A cells slots Z C F H locs lsA hP hD hS hL)
theorem v_icmp_ne {x y : Int32} {off : Int} (t n : Nat) (hd : decode M.2.1 pc = .ok (.if_icmp .ne off, 3)) (hn : pc + 3 = n) (ht : (pc : Int) + off = (t : Int)) (h1 : ¬ x = y → V M t ls st w Q) (h2 : x = y → V M n ls st w Q) : V M pc ls (.int y :: .int x :: st) w Q := by
  subst hn
  intro p l e R s m args below meth c ad kI kZ D A cells slots Z C F H locs lsA hP hD hS hL
  exact lv_icmp_ne C.1 C.2.1 hd ht (fun q => h1 q p l e R s m args below meth c ad kI kZ D A cells slots Z C F H locs lsA hP hD hS hL) (fun q => h2 (by simpa using q) p l e R s m args below meth c ad kI kZ D A cells slots Z C F H locs lsA hP hD hS hL)
theorem v_if_lt {x : Int32} {off : Int} (t n : Nat) (hd : decode M.2.1 pc = .ok (.ifCond .lt off, 3)) (hn : pc + 3 = n) (ht : (pc : Int) + off = (t : Int)) (h1 : x < 0 → V M t ls st w Q) (h2 : ¬ x < 0 → V M n ls st w Q) : V M pc ls (.int x :: st) w Q := by
  subst hn
  intro p l e R s m args below meth c ad kI kZ D A cells slots Z C F H locs lsA hP hD hS hL
  exact lv_if_lt C.1 C.2.1 hd ht (fun q => h1 q p l e R s m args below meth c ad kI kZ D A cells slots Z C F H locs lsA hP hD hS hL) (fun q => h2 q p l e R s m args below meth c ad kI kZ D A cells slots Z C F H locs lsA hP hD hS hL)
theorem v_icmp_lt {x y : Int32} {off : Int} (t n : Nat) (hd : decode M.2.1 pc = .ok (.if_icmp .lt off, 3)) (hn : pc + 3 = n) (ht : (pc : Int) + off = (t : Int)) (h1 : x < y → V M t ls st w Q) (h2 : ¬ x < y → V M n ls st w Q) : V M pc ls (.int y :: .int x :: st) w Q := by
  subst hn
  intro p l e R s m args below meth c ad kI kZ D A cells slots Z C F H locs lsA hP hD hS hL
  exact lv_icmp_lt C.1 C.2.1 hd ht (fun q => h1 q p l e R s m args below meth c ad kI kZ D A cells slots Z C F H locs lsA hP hD hS hL) (fun q => h2 q p l e R s m args below meth c ad kI kZ D A cells slots Z C F H locs lsA hP hD hS hL)
theorem v_if_ge {x : Int32} {off : Int} (t n : Nat) (hd : decode M.2.1 pc = .ok (.ifCond .ge off, 3)) (hn : pc + 3 = n) (ht : (pc : Int) + off = (t : Int)) (h1 : 0 ≤ x → V M t ls st w Q) (h2 : ¬ 0 ≤ x → V M n ls st w Q) : V M pc ls (.int x :: st) w Q := by
  subst hn
  intro p l e R s m args below meth c ad kI kZ D A cells slots Z C F H locs lsA hP hD hS hL
  exact lv_if_ge C.1 C.2.1 hd ht (fun q => h1 q p l e R s m args below meth c ad kI kZ D A cells slots Z C F H locs lsA hP hD hS hL) (fun q => h2 q p l e R s m args below meth c ad kI kZ D A cells slots Z C F H locs lsA hP hD hS hL)
theorem v_icmp_ge {x y : Int32} {off : Int} (t n : Nat) (hd : decode M.2.1 pc = .ok (.if_icmp .ge off, 3)) (hn : pc + 3 = n) (ht : (pc : Int) + off = (t : Int)) (h1 : y ≤ x → V M t ls st w Q) (h2 : ¬ y ≤ x → V M n ls st w Q) : V M pc ls (.int y :: .int x :: st) w Q := by
  subst hn
  intro p l e R s m args below meth c ad kI kZ D A cells slots Z C F H locs lsA hP hD hS hL
  exact lv_icmp_ge C.1 C.2.1 hd ht (fun q => h1 q p l e R s m args below meth c ad kI kZ D A cells slots Z C F H locs lsA hP hD hS hL) (fun q => h2 q p l e R s m args below meth c ad kI kZ D A cells slots Z C F H locs lsA hP hD hS hL)
theorem v_if_gt {x : Int32} {off : Int} (t n : Nat) (hd : decode M.2.1 pc = .ok (.ifCond .gt off, 3)) (hn : pc + 3 = n) (ht : (pc : Int) + off = (t : Int)) (h1 : 0 < x → V M t ls st w Q) (h2 : ¬ 0 < x → V M n ls st w Q) : V M pc ls (.int x :: st) w Q := by
  subst hn
  intro p l e R s m args below meth c ad kI kZ D A cells slots Z C F H locs lsA hP hD hS hL
  exact lv_if_gt C.1 C.2.1 hd ht (fun q => h1 q p l e R s m args below meth c ad kI kZ D A cells slots Z C F H locs lsA hP hD hS hL) (fun q => h2 q p l e R s m args below meth c ad kI kZ D A cells slots Z C F H locs lsA hP hD hS hL)
theorem v_icmp_gt {x y : Int32} {off : Int} (t n : Nat) (hd : decode M.2.1 pc = .ok (.if_icmp .gt off, 3)) (hn : pc + 3 = n) (ht : (pc : Int) + off = (t : Int)) (h1 : y < x → V M t ls st w Q) (h2 : ¬ y < x → V M n ls st w Q) : V M pc ls (.int y :: .int x :: st) w Q := by
  subst hn
  intro p l e R s m args below meth c ad kI kZ D A cells slots Z C F H locs lsA hP hD hS hL
  exact lv_icmp_gt C.1 C.2.1 hd ht (fun q => h1 q p l e R s m args below meth c ad kI kZ D A cells slots Z C F H locs lsA hP hD hS hL) (fun q => h2 q p l e R s m args below meth c ad kI kZ D A cells slots Z C F H locs lsA hP hD hS hL)
theorem v_if_le {x : Int32} {off : Int} (t n : Nat) (hd : decode M.2.1 pc = .ok (.ifCond .le off, 3)) (hn : pc + 3 = n) (ht : (pc : Int) + off = (t : Int)) (h1 : x ≤ 0 → V M t ls st w Q) (h2 : ¬ x ≤ 0 → V M n ls st w Q) : V M pc ls (.int x :: st) w Q := by
  subst hn
  intro p l e R s m args below meth c ad kI kZ D A cells slots Z C F H locs lsA hP hD hS hL
  exact lv_if_le C.1 C.2.1 hd ht (fun q => h1 q p l e R s m args below meth c ad kI kZ D A cells slots Z C F H locs lsA hP hD hS hL) (fun q => h2 q p l e R s m args below meth c ad kI kZ D A cells slots Z C F H locs lsA hP hD hS hL)
theorem v_icmp_le {x y : Int32} {off : Int} (t n : Nat) (hd : decode M.2.1 pc = .ok (.if_icmp .le off, 3)) (hn : pc + 3 = n) (ht : (pc : Int) + off = (t : Int)) (h1 : x ≤ y → V M t ls st w Q) (h2 : ¬ x ≤ y → V M n ls st w Q) : V M pc ls (.int y :: .int x :: st) w Q := by
  subst hn
  intro p l e R s m args below meth c ad kI kZ D A cells slots Z C F H locs lsA hP hD hS hL
  exact lv_icmp_le C.1 C.2.1 hd ht (fun q => h1 q p l e R s m args below meth c ad kI kZ D A cells slots Z C F H locs lsA hP hD hS hL) (fun q => h2 q p l e R s m args below meth c ad kI kZ D A cells slots Z C F H locs lsA hP hD hS hL)
theorem v_goto {off : Int} (t : Nat) (hd : decode M.2.1 pc = .ok (.goto off, 3)) (ht : (pc : Int) + off = (t : Int)) (h : V M t ls st w Q) : V M pc ls st w Q := by
  intro p l e R s m args below meth c ad kI kZ D A cells slots Z C F H locs lsA hP hD hS hL
  exact lv_goto C.1 C.2.1 hd ht (h p l e R s m args below meth c ad kI kZ D A cells slots Z C F H locs lsA hP hD hS hL)
theorem v_iret {v : Int32} (hd : decode M.2.1 pc = .ok (.ireturn, 1)) (hr : M.2.2.2.1 = some .int) (h : Q (some (.int v)) w) : V M pc ls [.int v] w Q := by
  intro p l e R s m args below meth c ad kI kZ D A cells slots Z C F
  exact F _ _ _ _ _ h (Or.inl ⟨v, .int, rfl, rfl, hd, hr, rfl⟩)
theorem v_zret {v : Int32} (hd : decode M.2.1 pc = .ok (.ireturn, 1)) (hr : M.2.2.2.1 = some .boolean) (hv : v = 0 ∨ v = 1) (h : Q (some (.int v)) w) : V M pc ls [.int v] w Q := by
  intro p l e R s m args below meth c ad kI kZ D A cells slots Z C F
  exact F _ _ _ _ _ h (Or.inl ⟨v, .boolean, rfl, rfl, hd, hr, by rcases hv with rfl | rfl <;> rfl⟩)
theorem v_lret {v : Int64} (hd : decode M.2.1 pc = .ok (.lreturn, 1)) (hr : M.2.2.2.1 = some .long) (h : Q (some (.long v)) w) : V M pc ls [.long v] w Q := by
  intro p l e R s m args below meth c ad kI kZ D A cells slots Z C F
  exact F _ _ _ _ _ h (Or.inr (Or.inl ⟨v, rfl, rfl, hd, hr⟩))
theorem v_vret (hd : decode M.2.1 pc = .ok (.return_, 1)) (hr : M.2.2.2.1 = none) (h : Q none w) : V M pc ls [] w Q := by
  intro p l e R s m args below meth c ad kI kZ D A cells slots Z C F
  exact F _ _ _ _ _ h (Or.inr (Or.inr ⟨rfl, rfl, hd, hr⟩))
theorem v_tabOut {dflt lo hi : Int} {offs : Array Int} {len : Nat} {x : Int32} (t : Nat) (hd : decode M.2.1 pc = .ok (.tableswitch dflt lo hi offs, len)) (hx : x.toInt < lo ∨ hi < x.toInt) (ht : (pc : Int) + dflt = (t : Int)) (h : V M t ls st w Q) : V M pc ls (.int x :: st) w Q := by
  intro p l e R s m args below meth c ad kI kZ D A cells slots Z C F H locs lsA hP hD hS hL
  exact lv_tableOut C.1 C.2.1 hd hx ht (h p l e R s m args below meth c ad kI kZ D A cells slots Z C F H locs lsA hP hD hS hL)
theorem v_tabIn {dflt lo hi off : Int} {offs : Array Int} {len : Nat} {x : Int32} (t : Nat) (hd : decode M.2.1 pc = .ok (.tableswitch dflt lo hi offs, len)) (h1 : ¬ x.toInt < lo) (h2 : ¬ hi < x.toInt) (ho : offs[(x.toInt - lo).toNat]? = some off) (ht : (pc : Int) + off = (t : Int)) (h : V M t ls st w Q) : V M pc ls (.int x :: st) w Q := by
  intro p l e R s m args below meth c ad kI kZ D A cells slots Z C F H locs lsA hP hD hS hL
  exact lv_tableIn C.1 C.2.1 hd h1 h2 ho ht (h p l e R s m args below meth c ad kI kZ D A cells slots Z C F H locs lsA hP hD hS hL)
theorem v_look {dflt off : Int} {ps : Array (Int × Int)} {len : Nat} {x : Int32} (t : Nat) (hd : decode M.2.1 pc = .ok (.lookupswitch dflt ps, len)) (hp : (ps.toList.zip (ps.toList.drop 1)).all (fun (a, next) => a.1 < next.1) = true) (ho : Op.lookupswitch.offset ps.toList dflt x.toInt = off) (ht : (pc : Int) + off = (t : Int)) (h : V M t ls st w Q) : V M pc ls (.int x :: st) w Q := by
  intro p l e R s m args below meth c ad kI kZ D A cells slots Z C F H locs lsA hP hD hS hL
  exact lv_lookup C.1 C.2.1 hd hp ho ht (h p l e R s m args below meth c ad kI kZ D A cells slots Z C F H locs lsA hP hD hS hL)
/-- a field is read -/
theorem v_get {r k ix ci N : Nat} {own2 C0 : String} {T : u_T} {fs : List Value} {v : Value} (n : Nat) (hd : decode M.2.1 pc = .ok (.getfield ix, 3)) (hn : pc + 3 = n) (hs : ∀ kI kZ, (cE kI kZ w)[r]? = some (.inr (ci, fs))) (hc : classes[ci]? = some (C0, T, N)) (hin : ∀ q ∈ u_ws C0 T N, q ∈ TG) (hk : k < N) (hlk : Cond.fieldLink M.1 ix (T k).1 (T k).2.1 (T k).2.2.1 ∈ TG) (hv : fs[k]? = some v) (h : V M n ls (v :: st) w Q) : V M pc ls (.ref r :: st) w Q := by
  subst hn
  intro p l e R s m args below meth c ad kI kZ D A cells slots Z C F H locs lsA hP hD hS hL
  exact va_get C.1 C.2.1 C.2.2.2.2.1 hin C.2.2.2.1 C.2.2.2.2.2.1 hP r (cW_at (hs kI kZ)) hc k hk (C.2.2.2.2.1 _ hlk) (fun _ q => q) (by rw [List.getElem?_map, hv]; rfl) hd (h p l e R s m args below meth c ad kI kZ D A cells slots Z C F H locs lsA hP hD hS hL)
/-- a field is written -/
theorem v_put {r k ix ci N : Nat} {C0 : String} {T : u_T} {ty : FieldType} {ty0 : Nat → FieldType} {fs : List Value} {v : Value} {u : Wd} (n : Nat) (hd : decode M.2.1 pc = .ok (.putfield ix, 3)) (hn : pc + 3 = n) (hs : ∀ kI kZ, (cE kI kZ w)[r]? = some (.inr (ci, fs))) (hu : ∀ kI kZ, (cE kI kZ w).set r (.inr (ci, fs.set k v)) = cE kI kZ u) (hc : classes[ci]? = some (C0, T, N)) (hin : ∀ q ∈ u_ws C0 T N, q ∈ TG) (hty : ∀ k, k < N → parseFieldDescriptor (T k).2.2.1 = some (ty0 k)) (hnm : ∀ a, a < N → ∀ b, b < N → a ≠ b → (T a).2.1 ≠ (T b).2.1) (hk : k < N) (hlk : Cond.fieldLink M.1 ix (T k).1 (T k).2.1 (T k).2.2.1 ∈ TG) (hfin : (T k).2.2.2 = false) (hpt : parseFieldDescriptor (T k).2.2.1 = some ty) (hl : k < fs.length) (hcv : ∀ ad, cv ad v = v) (hna : narrow ty v = v) (hfi : fits ty v = true) (h : V M n ls st u Q) : V M pc ls (v :: .ref r :: st) w Q := by
  subst hn
  intro p l e R s m args below meth c ad kI kZ D A cells slots Z C F H locs lsA hP hD hS hL
  have e1 : (cW ad kI kZ w).set r (ad r, .inr (ci, (fs.map (cv ad)).set k v)) = cW ad kI kZ u := by
    rw [← cW_set (ad := ad) (hu kI kZ)]
    show _ = (cW ad kI kZ w).set r (ad r, .inr (ci, (fs.set k v).map (cv ad)))
    rw [List.map_set, hcv ad]
  rw [List.map_cons, hcv ad, List.map_cons]
  exact va_put C.1 C.2.1 C.2.2.2.2.1 hin ty0 hty hnm C.2.2.2.1 C.2.2.2.2.2.1 hP hD hS r (cW_at (hs kI kZ)) hc k hk (C.2.2.2.2.1 _ hlk) (fun _ q => q) hfin hpt hna hfi (by rw [List.length_map]; exact hl) hd (fun H1 locs1 hP1 hD1 hS1 => h p l e R s m args below meth c ad kI kZ D A cells slots Z C F H1 locs1 lsA (e1 ▸ hP1) (e1 ▸ hD1) hS1 hL)
/-- arrays of ints, of booleans -/
theorem v_iald {r a : Nat} {i : Int32} (n : Nat) (hd : decode M.2.1 pc = .ok (.iaload, 1)) (hn : pc + 1 = n) (hs : ∀ kI kZ, (cE kI kZ w)[r]? = some (iE kI w r a)) (hi : vp_in i a) (h : V M n ls (.int (w.2.2 r i.toNatClampNeg) :: st) w Q) : V M pc ls (.int i :: .ref r :: st) w Q := by
  subst hn
  intro p l e R s m args below meth c ad kI kZ D A cells slots Z C F H locs lsA hP hD hS hL
  exact va_iald C.1 C.2.1 C.2.2.2.2.2.1 hP r 0 (cW_at (hs kI kZ)) rfl hi hd (h p l e R s m args below meth c ad kI kZ D A cells slots Z C F H locs lsA hP hD hS hL)
theorem v_zald {r a : Nat} {i : Int32} (n : Nat) (hd : decode M.2.1 pc = .ok (.baload, 1)) (hn : pc + 1 = n) (hs : ∀ kI kZ, (cE kI kZ w)[r]? = some (iE kZ w r a)) (hi : vp_in i a) (h : V M n ls (.int (w.2.2 r i.toNatClampNeg) :: st) w Q) : V M pc ls (.int i :: .ref r :: st) w Q := by
  subst hn
  intro p l e R s m args below meth c ad kI kZ D A cells slots Z C F H locs lsA hP hD hS hL
  exact va_zald C.1 C.2.1 C.2.2.2.2.2.1 hP r 1 (cW_at (hs kI kZ)) rfl hi hd (h p l e R s m args below meth c ad kI kZ D A cells slots Z C F H locs lsA hP hD hS hL)
theorem v_iast {r a : Nat} {i x : Int32} {u : Wd} (n : Nat) (hd : decode M.2.1 pc = .ok (.iastore, 1)) (hn : pc + 1 = n) (hs : ∀ kI kZ, (cE kI kZ w)[r]? = some (iE kI w r a)) (hu : ∀ kI kZ, (cE kI kZ w).set r (.inl (kI, a, .inl (upd (w.2.2 r) i.toNatClampNeg x))) = cE kI kZ u) (hi : vp_in i a) (h : V M n ls st u Q) : V M pc ls (.int x :: .int i :: .ref r :: st) w Q := by
  subst hn
  intro p l e R s m args below meth c ad kI kZ D A cells slots Z C F H locs lsA hP hD hS hL
  have e1 := cW_set (ad := ad) (hu kI kZ)
  exact va_iast C.1 C.2.1 C.2.2.2.2.2.1 hP hD hS r 0 (cW_at (hs kI kZ)) rfl hi hd (fun H1 locs1 hP1 hD1 hS1 => h p l e R s m args below meth c ad kI kZ D A cells slots Z C F H1 locs1 lsA (e1 ▸ hP1) (e1 ▸ hD1) hS1 hL)
theorem v_zast {r a : Nat} {i x : Int32} {u : Wd} (n : Nat) (hd : decode M.2.1 pc = .ok (.bastore, 1)) (hn : pc + 1 = n) (hs : ∀ kI kZ, (cE kI kZ w)[r]? = some (iE kZ w r a)) (hu : ∀ kI kZ, (cE kI kZ w).set r (.inl (kZ, a, .inl (upd (w.2.2 r) i.toNatClampNeg (vp_nar .boolean x)))) = cE kI kZ u) (hi : vp_in i a) (h : V M n ls st u Q) : V M pc ls (.int x :: .int i :: .ref r :: st) w Q := by
  subst hn
  intro p l e R s m args below meth c ad kI kZ D A cells slots Z C F H locs lsA hP hD hS hL
  have e1 := cW_set (ad := ad) (hu kI kZ)
  exact va_zast C.1 C.2.1 C.2.2.2.2.2.1 hP hD hS r 1 (cW_at (hs kI kZ)) rfl hi hd (fun H1 locs1 hP1 hD1 hS1 => h p l e R s m args below meth c ad kI kZ D A cells slots Z C F H1 locs1 lsA (e1 ▸ hP1) (e1 ▸ hD1) hS1 hL)
theorem v_alen {r a : Nat} {v : Int32} (n : Nat) (hd : decode M.2.1 pc = .ok (.arraylength, 1)) (hn : pc + 1 = n) (hs : ∀ kI kZ, (cE kI kZ w)[r]? = some (iE kI w r a)) (hv : Int32.ofNat a = v) (h : V M n ls (.int v :: st) w Q) : V M pc ls (.ref r :: st) w Q := by
  subst hn
  intro p l e R s m args below meth c ad kI kZ D A cells slots Z C F H locs lsA hP hD hS hL
  exact va_alen C.1 C.2.1 C.2.2.2.2.2.1 hP r 0 (cW_at (hs kI kZ)) rfl hv hd (h p l e R s m args below meth c ad kI kZ D A cells slots Z C F H locs lsA hP hD hS hL)
end VR

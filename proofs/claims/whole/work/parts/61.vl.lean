/-! THE CLAIM OUT OF ONE WALK OF THE LAW'S BODY. Your part is whole_start (and what it stands on); all else here is the same for every law, but numbers. -/
def R_law : String := "AgingStampsLaw"
def lw_P (b : Addr) (xs : List Int32) (args : Array Value) (s : State) : Prop := args = #[.ref b] ∧ s.IntsAt b xs ∧ xs.length ≤ 320 ∧ (Jvm.Cond.and given_1 narrow_1).before args s = true
def lw_Q (_ : Array Value) (s : State) (o : Outcome) (t : State) : Prop := o = .returned (some (.int 1)) ∧ Framed s o t [] 600000 7302250
def lw_Z (below : List Frame) (a : Array Value) (s : State) : State → Prop := fun t => ∃ o, t.status = .running ∧ Ended t below o ∧ lw_Q a s o t
/-- the law's own end, with 1 on the stack, nothing written that was there before, its room as the claim has it -/
theorem lw_ret {p : Program} {l : Launch} {e : Env} {s : State} {m : MethodId} {below : List Frame} {meth : Method} {c : Code} {b : Nat} (hx : p.tables.exec = Jvm.exec) (hb : c.code = code) (hr : meth.sig.returnType = ret) (hlocks : meth.locks = false) {pc : Nat} {H : Heap} {ls : Array Slot} (hdg : decode code pc = .ok (.ireturn, 1)) : W p l e room_1 s m #[Value.ref b] below meth c H [] 600000 7302250 (lw_Z below #[Value.ref b] s) (F0 m pc ls [.int 1]) := by
  intro T hT X
  obtain ⟨fs, hret, hrun, hended, hW, hframe⟩ := X.leave (v := some (.int 1)) (hlocks := hlocks) (fun h => by rw [hr] at h; cases h)
  have hmeth' : T.vm.method? m = some meth := X.method'
  refine ⟨T.setFrames fs, ?_, .returned (some (.int 1)), hrun, hended, rfl, ⟨_, rfl⟩, hW, hframe⟩
  jvm_step X.here [X.here.top, hx, hb, hdg, hmeth', hr, ret, narrow_b1]
  (try refine ⟨rfl, ?_⟩); (try refine ⟨rfl, ?_⟩)
  first | (intro acts; rw [hret _ acts rfl rfl rfl]) | rw [hret _ _ rfl rfl rfl]
  exact Steps.refl _
/-- what holds at the law's entry: the machine, the code, the tables' words (any of lw_tbl by 'hts w (by decide +kernel)'), the script of L ints xs at the cell b, what the Statement gives of the start (any of its parts by flat_of_before) -/
def lw_At (p : Program) (s : State) (m : MethodId) (meth : Method) (c : Code) (b L : Nat) (xs : Nat → Int32) : Prop :=
  p.tables.exec = Jvm.exec ∧ c.code = code ∧ meth.sig.returnType = ret ∧ c.maxLocals = 4 ∧ s.vm.findClass R_law = some m.cls ∧ (∀ w ∈ lw_tbl, w.before #[Value.ref b] s = true) ∧ va_X b L xs s s.heap ∧ b < s.heap.size ∧ meth.locks = false ∧ (Jvm.Cond.and given_1 narrow_1).before #[Value.ref b] s = true
abbrev mL : MD := (RL, cL_law, 4, some .boolean, 9, 332)
/-- the law's frame: the script is the cell ad 44 -/
def LC (L : Nat) (xs : Nat → Int32) (p : Program) (s : State) (m : MethodId) (meth : Method) (c : Code) (ad : Nat → Nat) (kI kZ : ClassId) (D : va_G) : Prop :=
  Cx mL p room_1 s m #[Value.ref (ad 44)] meth c kI kZ D (fun q : Nat => s.heap.size ≤ q) 600000 7302250 ∧ va_X (ad 44) L xs s s.heap ∧ ad 44 < s.heap.size ∧ meth.sig.returnType = ret ∧ meth.locks = false
def VL (L : Nat) (xs : Nat → Int32) (pc : Nat) (ls : LsT) (st : List Value) (w : Wd) : Prop :=
  ∀ (p : Program) (l : Launch) (e : Env) (s : State) (m : MethodId) (below : List Frame) (meth : Method) (c : Code) (ad : Nat → Nat) (kI kZ : ClassId) (D : va_G), LC L xs p s m meth c ad kI kZ D →
    Sn mL pc ls st w p l e room_1 s m #[Value.ref (ad 44)] below meth c ad kI kZ D (fun q : Nat => s.heap.size ≤ q) 600000 7302250 (lw_Z below #[Value.ref (ad 44)] s)
section VLR
variable {L : Nat} {xs : Nat → Int32} {pc : Nat} {ls : LsT} {st : List Value} {w : Wd}
theorem l_iadd {x y : Int32} (n : Nat) (hd : decode cL_law pc = .ok (.iadd, 1)) (hn : pc + 1 = n)  (h : VL L xs n ls (.int (x + y) :: st) w) : VL L xs pc ls (.int y :: .int x :: st) w := by
  subst hn
  intro p l e s m below meth c ad kI kZ D C0 H locs lsA hP hD hS hL
  exact lv_iadd C0.1.1 C0.1.2.1 hd  (h p l e s m below meth c ad kI kZ D C0 H locs lsA hP hD hS hL)
theorem l_isub {x y : Int32} (n : Nat) (hd : decode cL_law pc = .ok (.isub, 1)) (hn : pc + 1 = n)  (h : VL L xs n ls (.int (x - y) :: st) w) : VL L xs pc ls (.int y :: .int x :: st) w := by
  subst hn
  intro p l e s m below meth c ad kI kZ D C0 H locs lsA hP hD hS hL
  exact lv_isub C0.1.1 C0.1.2.1 hd  (h p l e s m below meth c ad kI kZ D C0 H locs lsA hP hD hS hL)
theorem l_iand {x y : Int32} (n : Nat) (hd : decode cL_law pc = .ok (.iand, 1)) (hn : pc + 1 = n)  (h : VL L xs n ls (.int (x &&& y) :: st) w) : VL L xs pc ls (.int y :: .int x :: st) w := by
  subst hn
  intro p l e s m below meth c ad kI kZ D C0 H locs lsA hP hD hS hL
  exact lv_iand C0.1.1 C0.1.2.1 hd  (h p l e s m below meth c ad kI kZ D C0 H locs lsA hP hD hS hL)
theorem l_land {x y : Int64} (n : Nat) (hd : decode cL_law pc = .ok (.land, 1)) (hn : pc + 1 = n)  (h : VL L xs n ls (.long (x &&& y) :: st) w) : VL L xs pc ls (.long y :: .long x :: st) w := by
  subst hn
  intro p l e s m below meth c ad kI kZ D C0 H locs lsA hP hD hS hL
  exact lv_land C0.1.1 C0.1.2.1 hd  (h p l e s m below meth c ad kI kZ D C0 H locs lsA hP hD hS hL)
theorem l_lor {x y : Int64} (n : Nat) (hd : decode cL_law pc = .ok (.lor, 1)) (hn : pc + 1 = n)  (h : VL L xs n ls (.long (x ||| y) :: st) w) : VL L xs pc ls (.long y :: .long x :: st) w := by
  subst hn
  intro p l e s m below meth c ad kI kZ D C0 H locs lsA hP hD hS hL
  exact lv_lor C0.1.1 C0.1.2.1 hd  (h p l e s m below meth c ad kI kZ D C0 H locs lsA hP hD hS hL)
theorem l_lshl {x : Int64} {y : Int32} (n : Nat) (hd : decode cL_law pc = .ok (.lshl, 1)) (hn : pc + 1 = n)  (h : VL L xs n ls (.long (x <<< (y.toInt64 &&& 63)) :: st) w) : VL L xs pc ls (.int y :: .long x :: st) w := by
  subst hn
  intro p l e s m below meth c ad kI kZ D C0 H locs lsA hP hD hS hL
  exact lv_lshl C0.1.1 C0.1.2.1 hd rfl (h p l e s m below meth c ad kI kZ D C0 H locs lsA hP hD hS hL)
theorem l_i2l {x : Int32} (n : Nat) (hd : decode cL_law pc = .ok (.i2l, 1)) (hn : pc + 1 = n)  (h : VL L xs n ls (.long (x.toInt64) :: st) w) : VL L xs pc ls (.int x :: st) w := by
  subst hn
  intro p l e s m below meth c ad kI kZ D C0 H locs lsA hP hD hS hL
  exact lv_i2l C0.1.1 C0.1.2.1 hd rfl (h p l e s m below meth c ad kI kZ D C0 H locs lsA hP hD hS hL)
theorem l_lcmp {x y : Int64} (n : Nat) (hd : decode cL_law pc = .ok (.lcmp, 1)) (hn : pc + 1 = n)  (h : VL L xs n ls (.int (lg_cmp x y) :: st) w) : VL L xs pc ls (.long y :: .long x :: st) w := by
  subst hn
  intro p l e s m below meth c ad kI kZ D C0 H locs lsA hP hD hS hL
  exact W.lcmp C0.1.1 C0.1.2.1 hd  (h p l e s m below meth c ad kI kZ D C0 H locs lsA hP hD hS hL)
theorem l_iconst {v : Int32} {z : Int} (n : Nat) (hd : decode cL_law pc = .ok (.iconst z, 1)) (hn : pc + 1 = n) (hv : Int32.ofInt z = v) (h : VL L xs n ls (.int v :: st) w) : VL L xs pc ls (st) w := by
  subst hn
  intro p l e s m below meth c ad kI kZ D C0 H locs lsA hP hD hS hL
  exact lv_iconst C0.1.1 C0.1.2.1 hd hv (h p l e s m below meth c ad kI kZ D C0 H locs lsA hP hD hS hL)
theorem l_bipush {v : Int32} {z : Int} (n : Nat) (hd : decode cL_law pc = .ok (.bipush z, 2)) (hn : pc + 2 = n) (hv : (Int8.ofInt z).toInt32 = v) (h : VL L xs n ls (.int v :: st) w) : VL L xs pc ls (st) w := by
  subst hn
  intro p l e s m below meth c ad kI kZ D C0 H locs lsA hP hD hS hL
  exact lv_bipush C0.1.1 C0.1.2.1 hd hv (h p l e s m below meth c ad kI kZ D C0 H locs lsA hP hD hS hL)
theorem l_ldc2 {v : Int64} {ix : Nat} (n : Nat) (hd : decode cL_law pc = .ok (.ldc2_w ix, 3)) (hn : pc + 3 = n) (hv : Cond.constantLong RL ix v ∈ TG) (h : VL L xs n ls (.long v :: st) w) : VL L xs pc ls (st) w := by
  subst hn
  intro p l e s m below meth c ad kI kZ D C0 H locs lsA hP hD hS hL
  exact lv_ldc2 C0.1.1 C0.1.2.1 C0.1.2.2.2.1 (C0.1.2.2.2.2.1 _ hv) hd (h p l e s m below meth c ad kI kZ D C0 H locs lsA hP hD hS hL)
theorem l_iload_n {x : Int32} {k : Fin 4} (n : Nat) (hd : decode cL_law pc = .ok (.iload_n k, 1)) (hn : pc + 1 = n) (hx : ls[(k : Nat)]? = some (some (.int x))) (h : VL L xs n ls (.int x :: st) w) : VL L xs pc ls (st) w := by
  subst hn
  intro p l e s m below meth c ad kI kZ D C0 H locs lsA hP hD hS hL
  exact lv_iload_n C0.1.1 C0.1.2.1 hd rfl (hL.2.2 _ _ hx) (h p l e s m below meth c ad kI kZ D C0 H locs lsA hP hD hS hL)
theorem l_aload_n {x : Nat} {k : Fin 4} (n : Nat) (hd : decode cL_law pc = .ok (.aload_n k, 1)) (hn : pc + 1 = n) (hx : ls[(k : Nat)]? = some (some (.ref x))) (h : VL L xs n ls (.ref x :: st) w) : VL L xs pc ls (st) w := by
  subst hn
  intro p l e s m below meth c ad kI kZ D C0 H locs lsA hP hD hS hL
  exact lv_aload_n C0.1.1 C0.1.2.1 hd rfl (hL.2.2 _ _ hx) (h p l e s m below meth c ad kI kZ D C0 H locs lsA hP hD hS hL)
theorem l_iinc {x v : Int32} {k : Nat} {z : Int} {ls2 : LsT} (n : Nat) (hd : decode cL_law pc = .ok (.iinc k z, 3)) (hn : pc + 3 = n) (hx : ls[k]? = some (some (.int x))) (hv : x + Int32.ofInt z = v) (hb : k < 4) (hk : okp ls k = true) (hl : ls.set k (some (.int v)) = ls2) (h : VL L xs n ls2 st w) : VL L xs pc ls st w := by
  subst hn; subst hl
  intro p l e s m below meth c ad kI kZ D C0 H locs lsA hP hD hS hL
  obtain ⟨j, hj⟩ := List.getElem?_of_mem (lvl_in.mpr ⟨_, hx, rfl⟩ : (k, cv ad (.int x)) ∈ lvl ad ls)
  exact lv_iinc C0.1.1 C0.1.2.1 hd hL.has hj hv hb rfl (fun lsB hB => h p l e s m below meth c ad kI kZ D C0 H locs lsB hP hD hS (LH.set1 (v := .int v) hk hB))
theorem l_if_eq {x : Int32} {off : Int} (t n : Nat) (hd : decode cL_law pc = .ok (.ifCond .eq off, 3)) (hn : pc + 3 = n) (ht : (pc : Int) + off = (t : Int)) (h1 : x = 0 → VL L xs t ls st w) (h2 : ¬ x = 0 → VL L xs n ls st w) : VL L xs pc ls (.int x :: st) w := by
  subst hn
  intro p l e s m below meth c ad kI kZ D C0 H locs lsA hP hD hS hL
  exact lv_if_eq C0.1.1 C0.1.2.1 hd ht (fun q => h1 q p l e s m below meth c ad kI kZ D C0 H locs lsA hP hD hS hL) (fun q => h2 q p l e s m below meth c ad kI kZ D C0 H locs lsA hP hD hS hL)
theorem l_icmp_eq {x y : Int32} {off : Int} (t n : Nat) (hd : decode cL_law pc = .ok (.if_icmp .eq off, 3)) (hn : pc + 3 = n) (ht : (pc : Int) + off = (t : Int)) (h1 : x = y → VL L xs t ls st w) (h2 : ¬ x = y → VL L xs n ls st w) : VL L xs pc ls (.int y :: .int x :: st) w := by
  subst hn
  intro p l e s m below meth c ad kI kZ D C0 H locs lsA hP hD hS hL
  exact lv_icmp_eq C0.1.1 C0.1.2.1 hd ht (fun q => h1 q p l e s m below meth c ad kI kZ D C0 H locs lsA hP hD hS hL) (fun q => h2 q p l e s m below meth c ad kI kZ D C0 H locs lsA hP hD hS hL)
theorem l_icmp_gt {x y : Int32} {off : Int} (t n : Nat) (hd : decode cL_law pc = .ok (.if_icmp .gt off, 3)) (hn : pc + 3 = n) (ht : (pc : Int) + off = (t : Int)) (h1 : y < x → VL L xs t ls st w) (h2 : ¬ y < x → VL L xs n ls st w) : VL L xs pc ls (.int y :: .int x :: st) w := by
  subst hn
  intro p l e s m below meth c ad kI kZ D C0 H locs lsA hP hD hS hL
  exact lv_icmp_gt C0.1.1 C0.1.2.1 hd ht (fun q => h1 q p l e s m below meth c ad kI kZ D C0 H locs lsA hP hD hS hL) (fun q => h2 q p l e s m below meth c ad kI kZ D C0 H locs lsA hP hD hS hL)
theorem l_goto {off : Int} (t : Nat) (hd : decode cL_law pc = .ok (.goto off, 3)) (ht : (pc : Int) + off = (t : Int)) (h : VL L xs t ls st w) : VL L xs pc ls st w := by
  intro p l e s m below meth c ad kI kZ D C0 H locs lsA hP hD hS hL
  exact lv_goto C0.1.1 C0.1.2.1 hd ht (h p l e s m below meth c ad kI kZ D C0 H locs lsA hP hD hS hL)
theorem l_tabOut {dflt lo hi : Int} {offs : Array Int} {len : Nat} {x : Int32} (t : Nat) (hd : decode cL_law pc = .ok (.tableswitch dflt lo hi offs, len)) (hx : x.toInt < lo ∨ hi < x.toInt) (ht : (pc : Int) + dflt = (t : Int)) (h : VL L xs t ls st w) : VL L xs pc ls (.int x :: st) w := by
  intro p l e s m below meth c ad kI kZ D C0 H locs lsA hP hD hS hL
  exact lv_tableOut C0.1.1 C0.1.2.1 hd hx ht (h p l e s m below meth c ad kI kZ D C0 H locs lsA hP hD hS hL)
theorem l_tabIn {dflt lo hi off : Int} {offs : Array Int} {len : Nat} {x : Int32} (t : Nat) (hd : decode cL_law pc = .ok (.tableswitch dflt lo hi offs, len)) (h1 : ¬ x.toInt < lo) (h2 : ¬ hi < x.toInt) (ho : offs[(x.toInt - lo).toNat]? = some off) (ht : (pc : Int) + off = (t : Int)) (h : VL L xs t ls st w) : VL L xs pc ls (.int x :: st) w := by
  intro p l e s m below meth c ad kI kZ D C0 H locs lsA hP hD hS hL
  exact lv_tableIn C0.1.1 C0.1.2.1 hd h1 h2 ho ht (h p l e s m below meth c ad kI kZ D C0 H locs lsA hP hD hS hL)
/-- the script's length, one of its ints -/
theorem l_slen (n : Nat) (hd : decode cL_law pc = .ok (.arraylength, 1)) (hn : pc + 1 = n) (h : VL L xs n ls (.int (Int32.ofNat L) :: st) w) : VL L xs pc ls (.ref 44 :: st) w := by
  subst hn
  intro p l e s m below meth c ad kI kZ D C0 H locs lsA hP hD hS hL
  exact va_slen C0.1.1 C0.1.2.1 C0.2.1 C0.2.2.1 (Nat.not_le.mpr C0.2.2.1) hS hd (h p l e s m below meth c ad kI kZ D C0 H locs lsA hP hD hS hL)
theorem l_sld {i : Int32} (n : Nat) (hd : decode cL_law pc = .ok (.iaload, 1)) (hn : pc + 1 = n) (hi : vp_in i L) (h : VL L xs n ls (.int (xs i.toNatClampNeg) :: st) w) : VL L xs pc ls (.int i :: .ref 44 :: st) w := by
  subst hn
  intro p l e s m below meth c ad kI kZ D C0 H locs lsA hP hD hS hL
  exact va_sld C0.1.1 C0.1.2.1 C0.2.1 C0.2.2.1 (Nat.not_le.mpr C0.2.2.1) hS hi hd (h p l e s m below meth c ad kI kZ D C0 H locs lsA hP hD hS hL)
theorem l_arg {i v : Int32} {z : Int} {a1 a2 : Option Value} (n : Nat) (d0 : decode cL_law pc = .ok (.aload_n 0, 1)) (d1 : decode cL_law (pc + 1) = .ok (.iload_n 3, 1)) (d2 : decode cL_law (pc + 1 + 1) = .ok (.iconst z, 1)) (d3 : decode cL_law (pc + 1 + 1 + 1) = .ok (.iadd, 1)) (d4 : decode cL_law (pc + 1 + 1 + 1 + 1) = .ok (.iaload, 1)) (hn : pc + 1 + 1 + 1 + 1 + 1 = n) (hv : Int32.ofInt z = v) (hi : vp_in (i + v) L)
    (h : VL L xs n [some (.ref 44), a1, a2, some (.int i)] (.int (xs (i + v).toNatClampNeg) :: st) w) : VL L xs pc [some (.ref 44), a1, a2, some (.int i)] st w := by
  subst hn
  exact l_aload_n _ d0 rfl rfl (l_iload_n _ d1 rfl rfl (l_iconst _ d2 rfl hv (l_iadd _ d3 rfl (l_sld _ d4 rfl hi h))))
/-- the end, with true -/
theorem l_end (hd : decode cL_law pc = .ok (.ireturn, 1)) : VL L xs pc ls [.int 1] w := by
  intro p l e s m below meth c ad kI kZ D C0 H locs lsA hP hD hS hL
  refine va_forget (fun q hq => hS.2.2 q hq) ?_
  exact lw_ret C0.1.1 C0.1.2.1 C0.2.2.2.1 C0.2.2.2.2 hd
theorem run_L {p : Program} {l : Launch} {e : Env} {s : State} {m : MethodId} {below : List Frame} {meth : Method} {c : Code} {ad : Nat → Nat} {kI kZ : ClassId} {D : va_G} {stk : List Value} {H : Heap} {locs : List Loc} {lsA : Array Slot} {av : Array Value}
    (C0 : LC L xs p s m meth c ad kI kZ D) (hD : va_D (fun q : Nat => s.heap.size ≤ q) (cW ad kI kZ w)) (hS : va_S (fun q : Nat => s.heap.size ≤ q) s.heap H locs) (hL : LH ad lsA 4 ls)
    (hr : va_Run p l e room_1 s m #[Value.ref (ad 44)] below meth c H locs 600000 7302250 0 0 (F0 m pc lsA stk) (st.map (cv ad)) (cQ ad kI kZ D (fun a u => VL L xs (pc + 3) ls (a.toList ++ st) u) (va_A (cW ad kI kZ w) H.size) av) (va_A (cW ad kI kZ w) H.size)) : W p l e room_1 s m #[Value.ref (ad 44)] below meth c H locs 600000 7302250 (lw_Z below #[Value.ref (ad 44)] s) (F0 m pc lsA stk) := by
  have hAA : ∀ q, va_A (cW ad kI kZ w) H.size q → s.heap.size ≤ q := by
    intro q h
    rcases h with ⟨k, x, h⟩ | h
    · exact hD.2 k (q, x) h
    · exact Nat.le_trans hS.1 h
  intro T hT X
  obtain ⟨v, st₀, t, T', L', h0, X', hL', e1, e2, ⟨⟨a, u, hv, hq, hP1, hD1⟩, hz, hk⟩, stp⟩ := hr T hT X
  injection hv with hv
  subst hv
  rw [h0] at hz hk
  have kk := hq p l e s m below meth c ad kI kZ D C0 T'.heap (locs ++ L') lsA (by rw [e1]; exact hP1) (hD1.weaken (fun k q _ h => hAA q.1 h))
    ⟨Nat.le_trans hS.1 (by rw [e1]; exact hz), fun q h1 h2 => by rw [e1, hk q (Nat.lt_of_lt_of_le h1 hS.1) (fun z => h2 (hAA q z))]; exact hS.2.1 q h1 h2, fun q hq => by
      rcases List.mem_append.mp hq with h | h
      · exact hS.2.2 q h
      · exact hAA _ (hL' q h)⟩ hL
  have es : (a.map (cv ad)).toList ++ st.map (cv ad) = (a.toList ++ st).map (cv ad) := by cases a <;> simp
  obtain ⟨t2, a1, b1⟩ := kk T' rfl X'
  exact ⟨t2, stp t2 (by rw [es]; exact a1), b1⟩
theorem l_callV {My : MD} {y : MethodName} {k ix : Nat} {ls0 : LsT} {as : List Value} {r ci N : Nat} {T : u_T} (n : Nat) (hd : decode cL_law pc = .ok (.invokevirtual ix, 3)) (hn : pc + 3 = n) (hF : FV y My k) (hI : FI y) (hl : Cond.methodLink RL ix y ∈ TG) (hs : ∀ kI kZ, ∃ fs, (cE kI kZ w)[r]? = some (.inr (ci, fs))) (hc : classes[ci]? = some (y.cls, T, N)) (hr : My.2.2.2.2.1 + 1 ≤ 9 ∧ 8 + (My.2.2.1 + 11) + My.2.2.2.2.2 ≤ 332) (hk : as.length = k) (hcat : (st.map fun v => v.category).sum ≤ 8) (hlen : (eL (.ref r :: as)).length ≤ My.2.2.1) (h : V My 0 ls0 [] w (fun a u => VL L xs n ls (a.toList ++ st) u)) (hE : eP My.2.2.1 (.ref r :: as) = ls0) : VL L xs pc ls (as.reverse ++ .ref r :: st) w := by
  subst hn
  intro p l e s m below meth c ad kI kZ D C0 H locs lsA hP hD hS hL
  obtain ⟨fs, hfs⟩ := hs kI kZ
  have ok : ∀ q ∈ TG, q.before #[Value.ref (ad 44)] s = true := C0.1.2.2.2.2.1
  have hM := V_met (l := l) hF h hE hlen ad kI kZ D H.size
  refine run_L C0 hD hS hL (va_runV (Ts := TG) (C := y.cls) (own := RL) (cc := cL_law) (nL := 4) (index := ix) (n := k) (b := ad r) (As := as.map (cv ad)) ⟨C0.1.1, C0.1.2.1, C0.1.2.2.1, C0.1.2.2.2.1, ok⟩ hM ⟨⟨rfl, rfl, Nat.le_trans hr.1 C0.1.2.2.2.2.2.2.2.1, Nat.le_trans hr.2 C0.1.2.2.2.2.2.2.2.2.1, pay_in ok (tbl_in hF.2.1), List.mem_cons_self, ok _ hF.2.1, ok _ hF.2.2.1, hF.2.2.2.1, fun sig hsig => by have := hF.2.2.2.2.1; rw [hsig] at this; exact (Option.some.inj this).symm, ok _ hl⟩, ok _ hI.1, ok _ hI.2⟩ ⟨cP_blind, va_recv C0.1.2.2.2.2.2.1 hP hc (cW_at hfs), fun U hU hW => ⟨rfl, by rw [hU], by rw [hU]; exact hP, va_K.moved hW.alike C0.1.2.2.2.2.2.1, hD.weaken (fun _ _ _ _ => trivial)⟩⟩ rfl (by rw [List.length_map]; exact hk) hL.1 (by simp [cv]) (lv_room (by rw [cv_cats]; exact hcat)) hd ⟨C0.1.2.2.2.2.2.2.2.2.2.1, C0.1.2.2.2.2.2.2.2.2.2.2⟩)
theorem l_cVI0 {My : MD} {y : MethodName} {ix : Nat} {ls0 : LsT} {r ci N : Nat} {T : u_T} (n : Nat) (hd : decode cL_law pc = .ok (.invokevirtual ix, 3)) (hn : pc + 3 = n) (hF : FV y My 0) (hI : FI y) (hl : Cond.methodLink RL ix y ∈ TG) (hs : ∀ kI kZ, ∃ fs, (cE kI kZ w)[r]? = some (.inr (ci, fs))) (hc : classes[ci]? = some (y.cls, T, N)) (hr : My.2.2.2.2.1 + 1 ≤ 9 ∧ 8 + (My.2.2.1 + 11) + My.2.2.2.2.2 ≤ 332) (hcat : (st.map fun v => v.category).sum ≤ 8) (hlen : (eL (.ref r :: [])).length ≤ My.2.2.1) (hE : eP My.2.2.1 (.ref r :: []) = ls0) (h : V My 0 ls0 [] w (fun a u => ∃ x : Int32, a = some (.int x) ∧ VL L xs n ls (.int x :: st) u)) : VL L xs pc ls (.ref r :: st) w :=
  l_callV (as := []) n hd hn hF hI hl hs hc hr rfl hcat hlen (h.mono (by rintro r u ⟨x, rfl, hv⟩; exact hv)) hE
theorem l_cVI1 {a0 : Value} {My : MD} {y : MethodName} {ix : Nat} {ls0 : LsT} {r ci N : Nat} {T : u_T} (n : Nat) (hd : decode cL_law pc = .ok (.invokevirtual ix, 3)) (hn : pc + 3 = n) (hF : FV y My 1) (hI : FI y) (hl : Cond.methodLink RL ix y ∈ TG) (hs : ∀ kI kZ, ∃ fs, (cE kI kZ w)[r]? = some (.inr (ci, fs))) (hc : classes[ci]? = some (y.cls, T, N)) (hr : My.2.2.2.2.1 + 1 ≤ 9 ∧ 8 + (My.2.2.1 + 11) + My.2.2.2.2.2 ≤ 332) (hcat : (st.map fun v => v.category).sum ≤ 8) (hlen : (eL (.ref r :: [a0])).length ≤ My.2.2.1) (hE : eP My.2.2.1 (.ref r :: [a0]) = ls0) (h : V My 0 ls0 [] w (fun a u => ∃ x : Int32, a = some (.int x) ∧ VL L xs n ls (.int x :: st) u)) : VL L xs pc ls (a0 :: .ref r :: st) w :=
  l_callV (as := [a0]) n hd hn hF hI hl hs hc hr rfl hcat hlen (h.mono (by rintro r u ⟨x, rfl, hv⟩; exact hv)) hE
theorem l_cVI2 {a0 a1 : Value} {My : MD} {y : MethodName} {ix : Nat} {ls0 : LsT} {r ci N : Nat} {T : u_T} (n : Nat) (hd : decode cL_law pc = .ok (.invokevirtual ix, 3)) (hn : pc + 3 = n) (hF : FV y My 2) (hI : FI y) (hl : Cond.methodLink RL ix y ∈ TG) (hs : ∀ kI kZ, ∃ fs, (cE kI kZ w)[r]? = some (.inr (ci, fs))) (hc : classes[ci]? = some (y.cls, T, N)) (hr : My.2.2.2.2.1 + 1 ≤ 9 ∧ 8 + (My.2.2.1 + 11) + My.2.2.2.2.2 ≤ 332) (hcat : (st.map fun v => v.category).sum ≤ 8) (hlen : (eL (.ref r :: [a0, a1])).length ≤ My.2.2.1) (hE : eP My.2.2.1 (.ref r :: [a0, a1]) = ls0) (h : V My 0 ls0 [] w (fun a u => ∃ x : Int32, a = some (.int x) ∧ VL L xs n ls (.int x :: st) u)) : VL L xs pc ls (a1 :: a0 :: .ref r :: st) w :=
  l_callV (as := [a0, a1]) n hd hn hF hI hl hs hc hr rfl hcat hlen (h.mono (by rintro r u ⟨x, rfl, hv⟩; exact hv)) hE
theorem l_cVI3 {a0 a1 a2 : Value} {My : MD} {y : MethodName} {ix : Nat} {ls0 : LsT} {r ci N : Nat} {T : u_T} (n : Nat) (hd : decode cL_law pc = .ok (.invokevirtual ix, 3)) (hn : pc + 3 = n) (hF : FV y My 3) (hI : FI y) (hl : Cond.methodLink RL ix y ∈ TG) (hs : ∀ kI kZ, ∃ fs, (cE kI kZ w)[r]? = some (.inr (ci, fs))) (hc : classes[ci]? = some (y.cls, T, N)) (hr : My.2.2.2.2.1 + 1 ≤ 9 ∧ 8 + (My.2.2.1 + 11) + My.2.2.2.2.2 ≤ 332) (hcat : (st.map fun v => v.category).sum ≤ 8) (hlen : (eL (.ref r :: [a0, a1, a2])).length ≤ My.2.2.1) (hE : eP My.2.2.1 (.ref r :: [a0, a1, a2]) = ls0) (h : V My 0 ls0 [] w (fun a u => ∃ x : Int32, a = some (.int x) ∧ VL L xs n ls (.int x :: st) u)) : VL L xs pc ls (a2 :: a1 :: a0 :: .ref r :: st) w :=
  l_callV (as := [a0, a1, a2]) n hd hn hF hI hl hs hc hr rfl hcat hlen (h.mono (by rintro r u ⟨x, rfl, hv⟩; exact hv)) hE
theorem l_cVI4 {a0 a1 a2 a3 : Value} {My : MD} {y : MethodName} {ix : Nat} {ls0 : LsT} {r ci N : Nat} {T : u_T} (n : Nat) (hd : decode cL_law pc = .ok (.invokevirtual ix, 3)) (hn : pc + 3 = n) (hF : FV y My 4) (hI : FI y) (hl : Cond.methodLink RL ix y ∈ TG) (hs : ∀ kI kZ, ∃ fs, (cE kI kZ w)[r]? = some (.inr (ci, fs))) (hc : classes[ci]? = some (y.cls, T, N)) (hr : My.2.2.2.2.1 + 1 ≤ 9 ∧ 8 + (My.2.2.1 + 11) + My.2.2.2.2.2 ≤ 332) (hcat : (st.map fun v => v.category).sum ≤ 8) (hlen : (eL (.ref r :: [a0, a1, a2, a3])).length ≤ My.2.2.1) (hE : eP My.2.2.1 (.ref r :: [a0, a1, a2, a3]) = ls0) (h : V My 0 ls0 [] w (fun a u => ∃ x : Int32, a = some (.int x) ∧ VL L xs n ls (.int x :: st) u)) : VL L xs pc ls (a3 :: a2 :: a1 :: a0 :: .ref r :: st) w :=
  l_callV (as := [a0, a1, a2, a3]) n hd hn hF hI hl hs hc hr rfl hcat hlen (h.mono (by rintro r u ⟨x, rfl, hv⟩; exact hv)) hE
theorem l_cVL1 {a0 : Value} {My : MD} {y : MethodName} {ix : Nat} {ls0 : LsT} {r ci N : Nat} {T : u_T} (n : Nat) (hd : decode cL_law pc = .ok (.invokevirtual ix, 3)) (hn : pc + 3 = n) (hF : FV y My 1) (hI : FI y) (hl : Cond.methodLink RL ix y ∈ TG) (hs : ∀ kI kZ, ∃ fs, (cE kI kZ w)[r]? = some (.inr (ci, fs))) (hc : classes[ci]? = some (y.cls, T, N)) (hr : My.2.2.2.2.1 + 1 ≤ 9 ∧ 8 + (My.2.2.1 + 11) + My.2.2.2.2.2 ≤ 332) (hcat : (st.map fun v => v.category).sum ≤ 8) (hlen : (eL (.ref r :: [a0])).length ≤ My.2.2.1) (hE : eP My.2.2.1 (.ref r :: [a0]) = ls0) (h : V My 0 ls0 [] w (fun a u => ∃ x : Int64, a = some (.long x) ∧ VL L xs n ls (.long x :: st) u)) : VL L xs pc ls (a0 :: .ref r :: st) w :=
  l_callV (as := [a0]) n hd hn hF hI hl hs hc hr rfl hcat hlen (h.mono (by rintro r u ⟨x, rfl, hv⟩; exact hv)) hE
end VLR

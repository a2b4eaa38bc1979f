def w00 : Wd := (fun _ => 0, fun _ => 0, fun _ _ => 0)
abbrev adF (a d : Nat → Nat) (b : Nat) : Nat → Nat := fun k : Nat => ([a 0, d 1, a 2, a 3, a 4, a 5, a 6, a 7, a 8, a 9, a 10, a 11, a 12, a 13, a 14, a 15, a 16, a 17, a 18, a 19, a 20, a 21, a 22, a 23, a 24, a 25, a 26, a 27, a 28, a 29, a 30, d 31, d 32, d 33, d 34, d 35, d 36, d 37, d 38, d 39, d 40, d 41, d 42, d 43] : List Nat).getD k b
abbrev wE (kI kZ : ClassId) (a d : Nat → Nat) : va_W := [(a 0, .inr (3, [.ref (a 25), .int 0, .ref (a 2), .ref (a 3), .ref (a 4), .ref (a 5), .int 0, .ref (a 6), .ref (a 26), .ref (a 27), .ref (a 28), .ref (a 29), .int 0, .ref (a 30), .long 0])), (d 1, .inr (4, [.int 0, .int 0, .ref (d 31), .ref (d 32), .ref (d 33), .ref (d 34), .ref (d 35), .ref (d 36), .int 0, .int 0, .ref (d 37), .int 0, .int 0, .int 0, .int 0, .int 0, .ref (d 38), .int 0, .ref (d 39), .ref (d 40), .ref (d 41), .long 0, .ref (d 42), .ref (d 43)])), (a 2, .inr (2, [.int 0, .int 0, .int 0, .int 0, .int 0])), (a 3, .inr (1, [.int 0, .int 0, .int 0, .int 0, .ref (a 7), .ref (a 8), .ref (a 9), .ref (a 10), .ref (a 11), .ref (a 12), .ref (a 13), .ref (a 14)])), (a 4, .inr (1, [.int 0, .int 0, .int 0, .int 0, .ref (a 15), .ref (a 16), .ref (a 17), .ref (a 18), .ref (a 19), .ref (a 20), .ref (a 21), .ref (a 22)])), (a 5, .inr (0, [.ref (a 23)])), (a 6, .inr (0, [.ref (a 24)])), (a 7, zA kI 5), (a 8, zA kI 5), (a 9, zA kI 5), (a 10, zA kI 5), (a 11, zA kI 5), (a 12, zA kI 4), (a 13, zA kI 4), (a 14, zA kI 4), (a 15, zA kI 5), (a 16, zA kI 5), (a 17, zA kI 5), (a 18, zA kI 5), (a 19, zA kI 5), (a 20, zA kI 4), (a 21, zA kI 4), (a 22, zA kI 4), (a 23, zA kI 420), (a 24, zA kI 60), (a 25, zA kI 48), (a 26, zA kZ 2), (a 27, zA kI 6), (a 28, zA kI 6), (a 29, zA kZ 6), (a 30, zA kI 4), (d 31, zA kI 5), (d 32, zA kI 4), (d 33, zA kI 60), (d 34, zA kI 15), (d 35, zA kI 5), (d 36, zA kI 8), (d 37, zA kI 48), (d 38, zA kI 420), (d 39, zA kI 6), (d 40, zA kI 6), (d 41, zA kI 6), (d 42, zA kZ 2), (d 43, zA kI 60)]
set_option maxHeartbeats 1000000 in
set_option maxRecDepth 100000 in
theorem cW_0 (kI kZ : ClassId) (a d : Nat → Nat) : [0, 30, 1, 2, 3, 4, 5, 6, 7, 8, 9, 10, 11, 12, 13, 14, 15, 16, 17, 18, 19, 20, 21, 22, 23, 24, 25, 26, 27, 28, 29, 31, 32, 33, 34, 35, 36, 37, 38, 39, 40, 41, 42, 43].filterMap (fun i => (wX kI kZ a ++ wM kI kZ d)[i]?) = wE kI kZ a d := rfl
set_option maxHeartbeats 1000000 in
set_option maxRecDepth 100000 in
theorem cW_1 (kI kZ : ClassId) (a d : Nat → Nat) : [0, 30, 1, 2, 3, 4, 5, 6, 7, 8, 9, 10, 11, 12, 13, 14, 15, 16, 17, 18, 19, 20, 21, 22, 23, 24, 25, 26, 27, 28, 29, 31, 32, 33, 34, 35, 36, 37, 38, 39, 40, 41, 42, 43].map (fun i => (wX kI kZ a ++ wM kI kZ d)[i]?) = (wE kI kZ a d).map some := rfl
theorem nd_0 : va_nd [0, 30, 1, 2, 3, 4, 5, 6, 7, 8, 9, 10, 11, 12, 13, 14, 15, 16, 17, 18, 19, 20, 21, 22, 23, 24, 25, 26, 27, 28, 29, 31, 32, 33, 34, 35, 36, 37, 38, 39, 40, 41, 42, 43] = true := by decide
def mI {α β : Type} (f : Nat → α → β) : Nat → List α → List β
  | _, [] => []
  | k, x :: l => f k x :: mI f (k + 1) l
theorem mI_sh {α β : Type} (f : Nat → α → β) (n : Nat) : ∀ (l : List α) (k : Nat), mI (fun i => f (i + n)) k l = mI f (k + n) l
  | [], k => rfl
  | x :: l, k => by
    show f (k + n) x :: mI (fun i => f (i + n)) (k + 1) l = f (k + n) x :: mI f (k + n + 1) l
    rw [mI_sh f n l (k + 1), show k + 1 + n = k + n + 1 from by omega]
theorem mI_eq {α β : Type} : ∀ (f : Nat → α → β) (l : List α), l.mapIdx f = mI f 0 l
  | f, [] => rfl
  | f, x :: l => by
    rw [List.mapIdx_cons, mI_eq (fun i => f (i + 1)) l, mI_sh f 1 l 0]
    rfl
set_option maxHeartbeats 1000000 in
set_option maxRecDepth 100000 in
theorem cW_2 (kI kZ : ClassId) (a d : Nat → Nat) (b : Nat) : wE kI kZ a d = cW (adF a d b) kI kZ w00 := by
  rw [cW, mI_eq]
  rfl

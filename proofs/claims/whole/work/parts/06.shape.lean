def sI (w : Wd) (j : Nat) (x : Int32) : Wd := (upd w.1 j x, w.2)
def sJ (w : Wd) (j : Nat) (x : Int64) : Wd := (w.1, vp_updL w.2.1 j x, w.2.2)
def sA (w : Wd) (r : Nat) (f : Nat → Int32) : Wd := (w.1, w.2.1, fun a => if a = r then f else w.2.2 a)
theorem b2 {b : Nat} {P : Nat → Prop} (hb : b < 2) (h0 : P 0) (h1 : P 1) : P b := by
  rcases (show b = 0 ∨ b = 1 by omega) with rfl | rfl
  · exact h0
  · exact h1
def mlen (g : Nat) : Nat := if g = 0 then 420 else 60
theorem shX3 {w : Wd} : ∀ kI kZ, (cE kI kZ w)[0]? = some (.inr (3, [.ref 25, .int (w.1 0), .ref 2, .ref (pr 0), .ref (pr 1), .ref (mr 0), .int (w.1 1), .ref (mr 1), .ref 26, .ref 27, .ref 28, .ref 29, .int (w.1 2), .ref 30, .long (w.2.1 0)])) := fun _ _ => rfl
theorem seX3 {w : Wd} : ∀ kI kZ, ∃ fs, (cE kI kZ w)[0]? = some (.inr (3, fs)) := fun kI kZ => ⟨_, shX3  kI kZ⟩
theorem shX4 {w : Wd} : ∀ kI kZ, (cE kI kZ w)[1]? = some (.inr (4, [.int (w.1 16), .int (w.1 17), .ref 31, .ref 32, .ref 33, .ref 34, .ref 35, .ref 36, .int (w.1 18), .int (w.1 19), .ref 37, .int (w.1 20), .int (w.1 21), .int (w.1 22), .int (w.1 23), .int (w.1 24), .ref 38, .int (w.1 25), .ref 39, .ref 40, .ref 41, .long (w.2.1 1), .ref 42, .ref 43])) := fun _ _ => rfl
theorem seX4 {w : Wd} : ∀ kI kZ, ∃ fs, (cE kI kZ w)[1]? = some (.inr (4, fs)) := fun kI kZ => ⟨_, shX4  kI kZ⟩
theorem shX2 {w : Wd} : ∀ kI kZ, (cE kI kZ w)[2]? = some (.inr (2, [.int (w.1 3), .int (w.1 4), .int (w.1 5), .int (w.1 6), .int (w.1 7)])) := fun _ _ => rfl
theorem seX2 {w : Wd} : ∀ kI kZ, ∃ fs, (cE kI kZ w)[2]? = some (.inr (2, fs)) := fun kI kZ => ⟨_, shX2  kI kZ⟩
theorem shX1 {w : Wd} {b : Nat} (hb : b < 2) : ∀ kI kZ, (cE kI kZ w)[pr b]? = some (.inr (1, [.int (pn w b 0), .int (pn w b 1), .int (pn w b 2), .int (pn w b 3), .ref (ar b 0), .ref (ar b 1), .ref (ar b 2), .ref (ar b 3), .ref (ar b 4), .ref (ar b 5), .ref (ar b 6), .ref (ar b 7)])) := b2 (P := fun b => ∀ kI kZ, (cE kI kZ w)[pr b]? = some (.inr (1, [.int (pn w b 0), .int (pn w b 1), .int (pn w b 2), .int (pn w b 3), .ref (ar b 0), .ref (ar b 1), .ref (ar b 2), .ref (ar b 3), .ref (ar b 4), .ref (ar b 5), .ref (ar b 6), .ref (ar b 7)]))) hb (fun _ _ => rfl) (fun _ _ => rfl)
theorem seX1 {w : Wd} {b : Nat} (hb : b < 2) : ∀ kI kZ, ∃ fs, (cE kI kZ w)[pr b]? = some (.inr (1, fs)) := fun kI kZ => ⟨_, shX1 hb kI kZ⟩
theorem shX0 {w : Wd} {g : Nat} (hg : g < 2) : ∀ kI kZ, (cE kI kZ w)[mr g]? = some (.inr (0, [.ref (mc g)])) := b2 (P := fun g => ∀ kI kZ, (cE kI kZ w)[mr g]? = some (.inr (0, [.ref (mc g)]))) hg (fun _ _ => rfl) (fun _ _ => rfl)
theorem seX0 {w : Wd} {g : Nat} (hg : g < 2) : ∀ kI kZ, ∃ fs, (cE kI kZ w)[mr g]? = some (.inr (0, fs)) := fun kI kZ => ⟨_, shX0 hg kI kZ⟩
theorem saX3_text {w : Wd} : ∀ kI kZ, (cE kI kZ w)[25]? = some (iE kI w 25 48) := fun _ _ => rfl
theorem suX3_text {w : Wd} {f : Nat → Int32} : ∀ kI kZ, (cE kI kZ w).set 25 (.inl (kI, 48, .inl f)) = cE kI kZ (sA w 25 f) := fun _ _ => rfl
theorem saX3_slotUsed {w : Wd} : ∀ kI kZ, (cE kI kZ w)[26]? = some (iE kZ w 26 2) := fun _ _ => rfl
theorem suX3_slotUsed {w : Wd} {f : Nat → Int32} : ∀ kI kZ, (cE kI kZ w).set 26 (.inl (kZ, 2, .inl f)) = cE kI kZ (sA w 26 f) := fun _ _ => rfl
theorem saX3_seenStamp {w : Wd} : ∀ kI kZ, (cE kI kZ w)[27]? = some (iE kI w 27 6) := fun _ _ => rfl
theorem suX3_seenStamp {w : Wd} {f : Nat → Int32} : ∀ kI kZ, (cE kI kZ w).set 27 (.inl (kI, 6, .inl f)) = cE kI kZ (sA w 27 f) := fun _ _ => rfl
theorem saX3_seenWeeks {w : Wd} : ∀ kI kZ, (cE kI kZ w)[28]? = some (iE kI w 28 6) := fun _ _ => rfl
theorem suX3_seenWeeks {w : Wd} {f : Nat → Int32} : ∀ kI kZ, (cE kI kZ w).set 28 (.inl (kI, 6, .inl f)) = cE kI kZ (sA w 28 f) := fun _ _ => rfl
theorem saX3_seenAlive {w : Wd} : ∀ kI kZ, (cE kI kZ w)[29]? = some (iE kZ w 29 6) := fun _ _ => rfl
theorem suX3_seenAlive {w : Wd} {f : Nat → Int32} : ∀ kI kZ, (cE kI kZ w).set 29 (.inl (kZ, 6, .inl f)) = cE kI kZ (sA w 29 f) := fun _ _ => rfl
theorem saX3_doings {w : Wd} : ∀ kI kZ, (cE kI kZ w)[30]? = some (iE kI w 30 4) := fun _ _ => rfl
theorem suX3_doings {w : Wd} {f : Nat → Int32} : ∀ kI kZ, (cE kI kZ w).set 30 (.inl (kI, 4, .inl f)) = cE kI kZ (sA w 30 f) := fun _ _ => rfl
theorem saX1_age {w : Wd} {b : Nat} (hb : b < 2) : ∀ kI kZ, (cE kI kZ w)[ar b 0]? = some (iE kI w (ar b 0) 5) := b2 (P := fun b => ∀ kI kZ, (cE kI kZ w)[ar b 0]? = some (iE kI w (ar b 0) 5)) hb (fun _ _ => rfl) (fun _ _ => rfl)
theorem suX1_age {w : Wd} {b : Nat} (hb : b < 2) {f : Nat → Int32} : ∀ kI kZ, (cE kI kZ w).set (ar b 0) (.inl (kI, 5, .inl f)) = cE kI kZ (sA w (ar b 0) f) := b2 (P := fun b => ∀ kI kZ, (cE kI kZ w).set (ar b 0) (.inl (kI, 5, .inl f)) = cE kI kZ (sA w (ar b 0) f)) hb (fun _ _ => rfl) (fun _ _ => rfl)
theorem saX1_health {w : Wd} {b : Nat} (hb : b < 2) : ∀ kI kZ, (cE kI kZ w)[ar b 1]? = some (iE kI w (ar b 1) 5) := b2 (P := fun b => ∀ kI kZ, (cE kI kZ w)[ar b 1]? = some (iE kI w (ar b 1) 5)) hb (fun _ _ => rfl) (fun _ _ => rfl)
theorem suX1_health {w : Wd} {b : Nat} (hb : b < 2) {f : Nat → Int32} : ∀ kI kZ, (cE kI kZ w).set (ar b 1) (.inl (kI, 5, .inl f)) = cE kI kZ (sA w (ar b 1) f) := b2 (P := fun b => ∀ kI kZ, (cE kI kZ w).set (ar b 1) (.inl (kI, 5, .inl f)) = cE kI kZ (sA w (ar b 1) f)) hb (fun _ _ => rfl) (fun _ _ => rfl)
theorem saX1_kind {w : Wd} {b : Nat} (hb : b < 2) : ∀ kI kZ, (cE kI kZ w)[ar b 2]? = some (iE kI w (ar b 2) 5) := b2 (P := fun b => ∀ kI kZ, (cE kI kZ w)[ar b 2]? = some (iE kI w (ar b 2) 5)) hb (fun _ _ => rfl) (fun _ _ => rfl)
theorem suX1_kind {w : Wd} {b : Nat} (hb : b < 2) {f : Nat → Int32} : ∀ kI kZ, (cE kI kZ w).set (ar b 2) (.inl (kI, 5, .inl f)) = cE kI kZ (sA w (ar b 2) f) := b2 (P := fun b => ∀ kI kZ, (cE kI kZ w).set (ar b 2) (.inl (kI, 5, .inl f)) = cE kI kZ (sA w (ar b 2) f)) hb (fun _ _ => rfl) (fun _ _ => rfl)
theorem saX1_joined {w : Wd} {b : Nat} (hb : b < 2) : ∀ kI kZ, (cE kI kZ w)[ar b 3]? = some (iE kI w (ar b 3) 5) := b2 (P := fun b => ∀ kI kZ, (cE kI kZ w)[ar b 3]? = some (iE kI w (ar b 3) 5)) hb (fun _ _ => rfl) (fun _ _ => rfl)
theorem suX1_joined {w : Wd} {b : Nat} (hb : b < 2) {f : Nat → Int32} : ∀ kI kZ, (cE kI kZ w).set (ar b 3) (.inl (kI, 5, .inl f)) = cE kI kZ (sA w (ar b 3) f) := b2 (P := fun b => ∀ kI kZ, (cE kI kZ w).set (ar b 3) (.inl (kI, 5, .inl f)) = cE kI kZ (sA w (ar b 3) f)) hb (fun _ _ => rfl) (fun _ _ => rfl)
theorem saX1_on {w : Wd} {b : Nat} (hb : b < 2) : ∀ kI kZ, (cE kI kZ w)[ar b 4]? = some (iE kI w (ar b 4) 5) := b2 (P := fun b => ∀ kI kZ, (cE kI kZ w)[ar b 4]? = some (iE kI w (ar b 4) 5)) hb (fun _ _ => rfl) (fun _ _ => rfl)
theorem suX1_on {w : Wd} {b : Nat} (hb : b < 2) {f : Nat → Int32} : ∀ kI kZ, (cE kI kZ w).set (ar b 4) (.inl (kI, 5, .inl f)) = cE kI kZ (sA w (ar b 4) f) := b2 (P := fun b => ∀ kI kZ, (cE kI kZ w).set (ar b 4) (.inl (kI, 5, .inl f)) = cE kI kZ (sA w (ar b 4) f)) hb (fun _ _ => rfl) (fun _ _ => rfl)
theorem saX1_left {w : Wd} {b : Nat} (hb : b < 2) : ∀ kI kZ, (cE kI kZ w)[ar b 5]? = some (iE kI w (ar b 5) 4) := b2 (P := fun b => ∀ kI kZ, (cE kI kZ w)[ar b 5]? = some (iE kI w (ar b 5) 4)) hb (fun _ _ => rfl) (fun _ _ => rfl)
theorem suX1_left {w : Wd} {b : Nat} (hb : b < 2) {f : Nat → Int32} : ∀ kI kZ, (cE kI kZ w).set (ar b 5) (.inl (kI, 4, .inl f)) = cE kI kZ (sA w (ar b 5) f) := b2 (P := fun b => ∀ kI kZ, (cE kI kZ w).set (ar b 5) (.inl (kI, 4, .inl f)) = cE kI kZ (sA w (ar b 5) f)) hb (fun _ _ => rfl) (fun _ _ => rfl)
theorem saX1_cost {w : Wd} {b : Nat} (hb : b < 2) : ∀ kI kZ, (cE kI kZ w)[ar b 6]? = some (iE kI w (ar b 6) 4) := b2 (P := fun b => ∀ kI kZ, (cE kI kZ w)[ar b 6]? = some (iE kI w (ar b 6) 4)) hb (fun _ _ => rfl) (fun _ _ => rfl)
theorem suX1_cost {w : Wd} {b : Nat} (hb : b < 2) {f : Nat → Int32} : ∀ kI kZ, (cE kI kZ w).set (ar b 6) (.inl (kI, 4, .inl f)) = cE kI kZ (sA w (ar b 6) f) := b2 (P := fun b => ∀ kI kZ, (cE kI kZ w).set (ar b 6) (.inl (kI, 4, .inl f)) = cE kI kZ (sA w (ar b 6) f)) hb (fun _ _ => rfl) (fun _ _ => rfl)
theorem saX1_fate {w : Wd} {b : Nat} (hb : b < 2) : ∀ kI kZ, (cE kI kZ w)[ar b 7]? = some (iE kI w (ar b 7) 4) := b2 (P := fun b => ∀ kI kZ, (cE kI kZ w)[ar b 7]? = some (iE kI w (ar b 7) 4)) hb (fun _ _ => rfl) (fun _ _ => rfl)
theorem suX1_fate {w : Wd} {b : Nat} (hb : b < 2) {f : Nat → Int32} : ∀ kI kZ, (cE kI kZ w).set (ar b 7) (.inl (kI, 4, .inl f)) = cE kI kZ (sA w (ar b 7) f) := b2 (P := fun b => ∀ kI kZ, (cE kI kZ w).set (ar b 7) (.inl (kI, 4, .inl f)) = cE kI kZ (sA w (ar b 7) f)) hb (fun _ _ => rfl) (fun _ _ => rfl)
theorem saX4_kind {w : Wd} : ∀ kI kZ, (cE kI kZ w)[31]? = some (iE kI w 31 5) := fun _ _ => rfl
theorem suX4_kind {w : Wd} {f : Nat → Int32} : ∀ kI kZ, (cE kI kZ w).set 31 (.inl (kI, 5, .inl f)) = cE kI kZ (sA w 31 f) := fun _ _ => rfl
theorem saX4_cost {w : Wd} : ∀ kI kZ, (cE kI kZ w)[32]? = some (iE kI w 32 4) := fun _ _ => rfl
theorem suX4_cost {w : Wd} {f : Nat → Int32} : ∀ kI kZ, (cE kI kZ w).set 32 (.inl (kI, 4, .inl f)) = cE kI kZ (sA w 32 f) := fun _ _ => rfl
theorem saX4_now {w : Wd} : ∀ kI kZ, (cE kI kZ w)[33]? = some (iE kI w 33 60) := fun _ _ => rfl
theorem suX4_now {w : Wd} {f : Nat → Int32} : ∀ kI kZ, (cE kI kZ w).set 33 (.inl (kI, 60, .inl f)) = cE kI kZ (sA w 33 f) := fun _ _ => rfl
theorem saX4_readStamp {w : Wd} : ∀ kI kZ, (cE kI kZ w)[34]? = some (iE kI w 34 15) := fun _ _ => rfl
theorem suX4_readStamp {w : Wd} {f : Nat → Int32} : ∀ kI kZ, (cE kI kZ w).set 34 (.inl (kI, 15, .inl f)) = cE kI kZ (sA w 34 f) := fun _ _ => rfl
theorem saX4_readJoined {w : Wd} : ∀ kI kZ, (cE kI kZ w)[35]? = some (iE kI w 35 5) := fun _ _ => rfl
theorem suX4_readJoined {w : Wd} {f : Nat → Int32} : ∀ kI kZ, (cE kI kZ w).set 35 (.inl (kI, 5, .inl f)) = cE kI kZ (sA w 35 f) := fun _ _ => rfl
theorem saX4_readLetter {w : Wd} : ∀ kI kZ, (cE kI kZ w)[36]? = some (iE kI w 36 8) := fun _ _ => rfl
theorem suX4_readLetter {w : Wd} {f : Nat → Int32} : ∀ kI kZ, (cE kI kZ w).set 36 (.inl (kI, 8, .inl f)) = cE kI kZ (sA w 36 f) := fun _ _ => rfl
theorem saX4_text {w : Wd} : ∀ kI kZ, (cE kI kZ w)[37]? = some (iE kI w 37 48) := fun _ _ => rfl
theorem suX4_text {w : Wd} {f : Nat → Int32} : ∀ kI kZ, (cE kI kZ w).set 37 (.inl (kI, 48, .inl f)) = cE kI kZ (sA w 37 f) := fun _ _ => rfl
theorem saX4_row {w : Wd} : ∀ kI kZ, (cE kI kZ w)[38]? = some (iE kI w 38 420) := fun _ _ => rfl
theorem suX4_row {w : Wd} {f : Nat → Int32} : ∀ kI kZ, (cE kI kZ w).set 38 (.inl (kI, 420, .inl f)) = cE kI kZ (sA w 38 f) := fun _ _ => rfl
theorem saX4_seenOf {w : Wd} : ∀ kI kZ, (cE kI kZ w)[39]? = some (iE kI w 39 6) := fun _ _ => rfl
theorem suX4_seenOf {w : Wd} {f : Nat → Int32} : ∀ kI kZ, (cE kI kZ w).set 39 (.inl (kI, 6, .inl f)) = cE kI kZ (sA w 39 f) := fun _ _ => rfl
theorem saX4_seenAfter {w : Wd} : ∀ kI kZ, (cE kI kZ w)[40]? = some (iE kI w 40 6) := fun _ _ => rfl
theorem suX4_seenAfter {w : Wd} {f : Nat → Int32} : ∀ kI kZ, (cE kI kZ w).set 40 (.inl (kI, 6, .inl f)) = cE kI kZ (sA w 40 f) := fun _ _ => rfl
theorem saX4_seenAlive {w : Wd} : ∀ kI kZ, (cE kI kZ w)[41]? = some (iE kI w 41 6) := fun _ _ => rfl
theorem suX4_seenAlive {w : Wd} {f : Nat → Int32} : ∀ kI kZ, (cE kI kZ w).set 41 (.inl (kI, 6, .inl f)) = cE kI kZ (sA w 41 f) := fun _ _ => rfl
theorem saX4_isKept {w : Wd} : ∀ kI kZ, (cE kI kZ w)[42]? = some (iE kZ w 42 2) := fun _ _ => rfl
theorem suX4_isKept {w : Wd} {f : Nat → Int32} : ∀ kI kZ, (cE kI kZ w).set 42 (.inl (kZ, 2, .inl f)) = cE kI kZ (sA w 42 f) := fun _ _ => rfl
theorem saX4_kept {w : Wd} : ∀ kI kZ, (cE kI kZ w)[43]? = some (iE kI w 43 60) := fun _ _ => rfl
theorem suX4_kept {w : Wd} {f : Nat → Int32} : ∀ kI kZ, (cE kI kZ w).set 43 (.inl (kI, 60, .inl f)) = cE kI kZ (sA w 43 f) := fun _ _ => rfl
theorem saX0_cells {w : Wd} {g : Nat} (hg : g < 2) : ∀ kI kZ, (cE kI kZ w)[mc g]? = some (iE kI w (mc g) (mlen g)) := b2 (P := fun g => ∀ kI kZ, (cE kI kZ w)[mc g]? = some (iE kI w (mc g) (mlen g))) hg (fun _ _ => rfl) (fun _ _ => rfl)
theorem suX0_cells {w : Wd} {g : Nat} (hg : g < 2) {f : Nat → Int32} : ∀ kI kZ, (cE kI kZ w).set (mc g) (.inl (kI, mlen g, .inl f)) = cE kI kZ (sA w (mc g) f) := b2 (P := fun g => ∀ kI kZ, (cE kI kZ w).set (mc g) (.inl (kI, mlen g, .inl f)) = cE kI kZ (sA w (mc g) f)) hg (fun _ _ => rfl) (fun _ _ => rfl)
theorem spX3_length {w : Wd} {x : Int32} : ∀ kI kZ, (cE kI kZ w).set 0 (.inr (3, ([.ref 25, .int (w.1 0), .ref 2, .ref (pr 0), .ref (pr 1), .ref (mr 0), .int (w.1 1), .ref (mr 1), .ref 26, .ref 27, .ref 28, .ref 29, .int (w.1 2), .ref 30, .long (w.2.1 0)] : List Value).set 1 (.int x))) = cE kI kZ (sI w 0 x) := fun _ _ => rfl
theorem spX3_actCount {w : Wd} {x : Int32} : ∀ kI kZ, (cE kI kZ w).set 0 (.inr (3, ([.ref 25, .int (w.1 0), .ref 2, .ref (pr 0), .ref (pr 1), .ref (mr 0), .int (w.1 1), .ref (mr 1), .ref 26, .ref 27, .ref 28, .ref 29, .int (w.1 2), .ref 30, .long (w.2.1 0)] : List Value).set 6 (.int x))) = cE kI kZ (sI w 1 x) := fun _ _ => rfl
theorem spX3_seenCount {w : Wd} {x : Int32} : ∀ kI kZ, (cE kI kZ w).set 0 (.inr (3, ([.ref 25, .int (w.1 0), .ref 2, .ref (pr 0), .ref (pr 1), .ref (mr 0), .int (w.1 1), .ref (mr 1), .ref 26, .ref 27, .ref 28, .ref 29, .int (w.1 2), .ref 30, .long (w.2.1 0)] : List Value).set 12 (.int x))) = cE kI kZ (sI w 2 x) := fun _ _ => rfl
theorem spX3_seed {w : Wd} {x : Int64} : ∀ kI kZ, (cE kI kZ w).set 0 (.inr (3, ([.ref 25, .int (w.1 0), .ref 2, .ref (pr 0), .ref (pr 1), .ref (mr 0), .int (w.1 1), .ref (mr 1), .ref 26, .ref 27, .ref 28, .ref 29, .int (w.1 2), .ref 30, .long (w.2.1 0)] : List Value).set 14 (.long x))) = cE kI kZ (sJ w 0 x) := fun _ _ => rfl
theorem spX2_begun {w : Wd} {x : Int32} : ∀ kI kZ, (cE kI kZ w).set 2 (.inr (2, ([.int (w.1 3), .int (w.1 4), .int (w.1 5), .int (w.1 6), .int (w.1 7)] : List Value).set 0 (.int x))) = cE kI kZ (sI w 3 x) := fun _ _ => rfl
theorem spX2_part {w : Wd} {x : Int32} : ∀ kI kZ, (cE kI kZ w).set 2 (.inr (2, ([.int (w.1 3), .int (w.1 4), .int (w.1 5), .int (w.1 6), .int (w.1 7)] : List Value).set 1 (.int x))) = cE kI kZ (sI w 4 x) := fun _ _ => rfl
theorem spX2_figures {w : Wd} {x : Int32} : ∀ kI kZ, (cE kI kZ w).set 2 (.inr (2, ([.int (w.1 3), .int (w.1 4), .int (w.1 5), .int (w.1 6), .int (w.1 7)] : List Value).set 2 (.int x))) = cE kI kZ (sI w 5 x) := fun _ _ => rfl
theorem spX2_first {w : Wd} {x : Int32} : ∀ kI kZ, (cE kI kZ w).set 2 (.inr (2, ([.int (w.1 3), .int (w.1 4), .int (w.1 5), .int (w.1 6), .int (w.1 7)] : List Value).set 3 (.int x))) = cE kI kZ (sI w 6 x) := fun _ _ => rfl
theorem spX2_second {w : Wd} {x : Int32} : ∀ kI kZ, (cE kI kZ w).set 2 (.inr (2, ([.int (w.1 3), .int (w.1 4), .int (w.1 5), .int (w.1 6), .int (w.1 7)] : List Value).set 4 (.int x))) = cE kI kZ (sI w 7 x) := fun _ _ => rfl
theorem spX1_stamps {w : Wd} {b : Nat} (hb : b < 2) {x : Int32} : ∀ kI kZ, (cE kI kZ w).set (pr b) (.inr (1, ([.int (pn w b 0), .int (pn w b 1), .int (pn w b 2), .int (pn w b 3), .ref (ar b 0), .ref (ar b 1), .ref (ar b 2), .ref (ar b 3), .ref (ar b 4), .ref (ar b 5), .ref (ar b 6), .ref (ar b 7)] : List Value).set 0 (.int x))) = cE kI kZ (sI w (pj b 0) x) := b2 (P := fun b => ∀ kI kZ, (cE kI kZ w).set (pr b) (.inr (1, ([.int (pn w b 0), .int (pn w b 1), .int (pn w b 2), .int (pn w b 3), .ref (ar b 0), .ref (ar b 1), .ref (ar b 2), .ref (ar b 3), .ref (ar b 4), .ref (ar b 5), .ref (ar b 6), .ref (ar b 7)] : List Value).set 0 (.int x))) = cE kI kZ (sI w (pj b 0) x)) hb (fun _ _ => rfl) (fun _ _ => rfl)
theorem spX1_letters {w : Wd} {b : Nat} (hb : b < 2) {x : Int32} : ∀ kI kZ, (cE kI kZ w).set (pr b) (.inr (1, ([.int (pn w b 0), .int (pn w b 1), .int (pn w b 2), .int (pn w b 3), .ref (ar b 0), .ref (ar b 1), .ref (ar b 2), .ref (ar b 3), .ref (ar b 4), .ref (ar b 5), .ref (ar b 6), .ref (ar b 7)] : List Value).set 1 (.int x))) = cE kI kZ (sI w (pj b 1) x) := b2 (P := fun b => ∀ kI kZ, (cE kI kZ w).set (pr b) (.inr (1, ([.int (pn w b 0), .int (pn w b 1), .int (pn w b 2), .int (pn w b 3), .ref (ar b 0), .ref (ar b 1), .ref (ar b 2), .ref (ar b 3), .ref (ar b 4), .ref (ar b 5), .ref (ar b 6), .ref (ar b 7)] : List Value).set 1 (.int x))) = cE kI kZ (sI w (pj b 1) x)) hb (fun _ _ => rfl) (fun _ _ => rfl)
theorem spX1_week {w : Wd} {b : Nat} (hb : b < 2) {x : Int32} : ∀ kI kZ, (cE kI kZ w).set (pr b) (.inr (1, ([.int (pn w b 0), .int (pn w b 1), .int (pn w b 2), .int (pn w b 3), .ref (ar b 0), .ref (ar b 1), .ref (ar b 2), .ref (ar b 3), .ref (ar b 4), .ref (ar b 5), .ref (ar b 6), .ref (ar b 7)] : List Value).set 2 (.int x))) = cE kI kZ (sI w (pj b 2) x) := b2 (P := fun b => ∀ kI kZ, (cE kI kZ w).set (pr b) (.inr (1, ([.int (pn w b 0), .int (pn w b 1), .int (pn w b 2), .int (pn w b 3), .ref (ar b 0), .ref (ar b 1), .ref (ar b 2), .ref (ar b 3), .ref (ar b 4), .ref (ar b 5), .ref (ar b 6), .ref (ar b 7)] : List Value).set 2 (.int x))) = cE kI kZ (sI w (pj b 2) x)) hb (fun _ _ => rfl) (fun _ _ => rfl)
theorem spX1_damp {w : Wd} {b : Nat} (hb : b < 2) {x : Int32} : ∀ kI kZ, (cE kI kZ w).set (pr b) (.inr (1, ([.int (pn w b 0), .int (pn w b 1), .int (pn w b 2), .int (pn w b 3), .ref (ar b 0), .ref (ar b 1), .ref (ar b 2), .ref (ar b 3), .ref (ar b 4), .ref (ar b 5), .ref (ar b 6), .ref (ar b 7)] : List Value).set 3 (.int x))) = cE kI kZ (sI w (pj b 3) x) := b2 (P := fun b => ∀ kI kZ, (cE kI kZ w).set (pr b) (.inr (1, ([.int (pn w b 0), .int (pn w b 1), .int (pn w b 2), .int (pn w b 3), .ref (ar b 0), .ref (ar b 1), .ref (ar b 2), .ref (ar b 3), .ref (ar b 4), .ref (ar b 5), .ref (ar b 6), .ref (ar b 7)] : List Value).set 3 (.int x))) = cE kI kZ (sI w (pj b 3) x)) hb (fun _ _ => rfl) (fun _ _ => rfl)
theorem spX4_stamps {w : Wd} {x : Int32} : ∀ kI kZ, (cE kI kZ w).set 1 (.inr (4, ([.int (w.1 16), .int (w.1 17), .ref 31, .ref 32, .ref 33, .ref 34, .ref 35, .ref 36, .int (w.1 18), .int (w.1 19), .ref 37, .int (w.1 20), .int (w.1 21), .int (w.1 22), .int (w.1 23), .int (w.1 24), .ref 38, .int (w.1 25), .ref 39, .ref 40, .ref 41, .long (w.2.1 1), .ref 42, .ref 43] : List Value).set 0 (.int x))) = cE kI kZ (sI w 16 x) := fun _ _ => rfl
theorem spX4_letters {w : Wd} {x : Int32} : ∀ kI kZ, (cE kI kZ w).set 1 (.inr (4, ([.int (w.1 16), .int (w.1 17), .ref 31, .ref 32, .ref 33, .ref 34, .ref 35, .ref 36, .int (w.1 18), .int (w.1 19), .ref 37, .int (w.1 20), .int (w.1 21), .int (w.1 22), .int (w.1 23), .int (w.1 24), .ref 38, .int (w.1 25), .ref 39, .ref 40, .ref 41, .long (w.2.1 1), .ref 42, .ref 43] : List Value).set 1 (.int x))) = cE kI kZ (sI w 17 x) := fun _ _ => rfl
theorem spX4_readStamps {w : Wd} {x : Int32} : ∀ kI kZ, (cE kI kZ w).set 1 (.inr (4, ([.int (w.1 16), .int (w.1 17), .ref 31, .ref 32, .ref 33, .ref 34, .ref 35, .ref 36, .int (w.1 18), .int (w.1 19), .ref 37, .int (w.1 20), .int (w.1 21), .int (w.1 22), .int (w.1 23), .int (w.1 24), .ref 38, .int (w.1 25), .ref 39, .ref 40, .ref 41, .long (w.2.1 1), .ref 42, .ref 43] : List Value).set 8 (.int x))) = cE kI kZ (sI w 18 x) := fun _ _ => rfl
theorem spX4_readLetters {w : Wd} {x : Int32} : ∀ kI kZ, (cE kI kZ w).set 1 (.inr (4, ([.int (w.1 16), .int (w.1 17), .ref 31, .ref 32, .ref 33, .ref 34, .ref 35, .ref 36, .int (w.1 18), .int (w.1 19), .ref 37, .int (w.1 20), .int (w.1 21), .int (w.1 22), .int (w.1 23), .int (w.1 24), .ref 38, .int (w.1 25), .ref 39, .ref 40, .ref 41, .long (w.2.1 1), .ref 42, .ref 43] : List Value).set 9 (.int x))) = cE kI kZ (sI w 19 x) := fun _ _ => rfl
theorem spX4_length {w : Wd} {x : Int32} : ∀ kI kZ, (cE kI kZ w).set 1 (.inr (4, ([.int (w.1 16), .int (w.1 17), .ref 31, .ref 32, .ref 33, .ref 34, .ref 35, .ref 36, .int (w.1 18), .int (w.1 19), .ref 37, .int (w.1 20), .int (w.1 21), .int (w.1 22), .int (w.1 23), .int (w.1 24), .ref 38, .int (w.1 25), .ref 39, .ref 40, .ref 41, .long (w.2.1 1), .ref 42, .ref 43] : List Value).set 11 (.int x))) = cE kI kZ (sI w 20 x) := fun _ _ => rfl
theorem spX4_at {w : Wd} {x : Int32} : ∀ kI kZ, (cE kI kZ w).set 1 (.inr (4, ([.int (w.1 16), .int (w.1 17), .ref 31, .ref 32, .ref 33, .ref 34, .ref 35, .ref 36, .int (w.1 18), .int (w.1 19), .ref 37, .int (w.1 20), .int (w.1 21), .int (w.1 22), .int (w.1 23), .int (w.1 24), .ref 38, .int (w.1 25), .ref 39, .ref 40, .ref 41, .long (w.2.1 1), .ref 42, .ref 43] : List Value).set 12 (.int x))) = cE kI kZ (sI w 21 x) := fun _ _ => rfl
theorem spX4_faultAt {w : Wd} {x : Int32} : ∀ kI kZ, (cE kI kZ w).set 1 (.inr (4, ([.int (w.1 16), .int (w.1 17), .ref 31, .ref 32, .ref 33, .ref 34, .ref 35, .ref 36, .int (w.1 18), .int (w.1 19), .ref 37, .int (w.1 20), .int (w.1 21), .int (w.1 22), .int (w.1 23), .int (w.1 24), .ref 38, .int (w.1 25), .ref 39, .ref 40, .ref 41, .long (w.2.1 1), .ref 42, .ref 43] : List Value).set 13 (.int x))) = cE kI kZ (sI w 22 x) := fun _ _ => rfl
theorem spX4_acts {w : Wd} {x : Int32} : ∀ kI kZ, (cE kI kZ w).set 1 (.inr (4, ([.int (w.1 16), .int (w.1 17), .ref 31, .ref 32, .ref 33, .ref 34, .ref 35, .ref 36, .int (w.1 18), .int (w.1 19), .ref 37, .int (w.1 20), .int (w.1 21), .int (w.1 22), .int (w.1 23), .int (w.1 24), .ref 38, .int (w.1 25), .ref 39, .ref 40, .ref 41, .long (w.2.1 1), .ref 42, .ref 43] : List Value).set 14 (.int x))) = cE kI kZ (sI w 23 x) := fun _ _ => rfl
theorem spX4_next {w : Wd} {x : Int32} : ∀ kI kZ, (cE kI kZ w).set 1 (.inr (4, ([.int (w.1 16), .int (w.1 17), .ref 31, .ref 32, .ref 33, .ref 34, .ref 35, .ref 36, .int (w.1 18), .int (w.1 19), .ref 37, .int (w.1 20), .int (w.1 21), .int (w.1 22), .int (w.1 23), .int (w.1 24), .ref 38, .int (w.1 25), .ref 39, .ref 40, .ref 41, .long (w.2.1 1), .ref 42, .ref 43] : List Value).set 15 (.int x))) = cE kI kZ (sI w 24 x) := fun _ _ => rfl
theorem spX4_seen {w : Wd} {x : Int32} : ∀ kI kZ, (cE kI kZ w).set 1 (.inr (4, ([.int (w.1 16), .int (w.1 17), .ref 31, .ref 32, .ref 33, .ref 34, .ref 35, .ref 36, .int (w.1 18), .int (w.1 19), .ref 37, .int (w.1 20), .int (w.1 21), .int (w.1 22), .int (w.1 23), .int (w.1 24), .ref 38, .int (w.1 25), .ref 39, .ref 40, .ref 41, .long (w.2.1 1), .ref 42, .ref 43] : List Value).set 17 (.int x))) = cE kI kZ (sI w 25 x) := fun _ _ => rfl
theorem spX4_seed {w : Wd} {x : Int64} : ∀ kI kZ, (cE kI kZ w).set 1 (.inr (4, ([.int (w.1 16), .int (w.1 17), .ref 31, .ref 32, .ref 33, .ref 34, .ref 35, .ref 36, .int (w.1 18), .int (w.1 19), .ref 37, .int (w.1 20), .int (w.1 21), .int (w.1 22), .int (w.1 23), .int (w.1 24), .ref 38, .int (w.1 25), .ref 39, .ref 40, .ref 41, .long (w.2.1 1), .ref 42, .ref 43] : List Value).set 21 (.long x))) = cE kI kZ (sJ w 1 x) := fun _ _ => rfl
theorem fits_z {x : Int32} (h : x = 0 ∨ x = 1) : fits .boolean (.int x) = true := by rcases h with rfl | rfl <;> rfl
theorem zn {x : Int32} (h : x = 0 ∨ x = 1) : narrow .boolean (.int x) = .int x := by rcases h with rfl | rfl <;> rfl
theorem zv {x : Int32} (h : x = 0 ∨ x = 1) : vp_nar .boolean x = x := by rcases h with rfl | rfl <;> rfl
section VF
variable {M : MD} {pc : Nat} {ls : LsT} {st : List Value} {w : Wd} {Q : Option Value → Wd → Prop}
theorem vg_X3_9 (hM : M.1 = RX3) (n : Nat) (hd : decode M.2.1 pc = .ok (.getfield 9, 3)) (hn : pc + 3 = n) (h : V M n ls (.ref 25 :: st) w Q) : V M pc ls (.ref 0 :: st) w Q :=
  v_get (own2 := "") n hd hn (shX3 ) rfl inX3 (by decide : 0 < 15) (by rw [hM]; exact fl_X3_9) rfl h
theorem vg_X3_16 (hM : M.1 = RX3) (n : Nat) (hd : decode M.2.1 pc = .ok (.getfield 16, 3)) (hn : pc + 3 = n) (h : V M n ls (.ref 2 :: st) w Q) : V M pc ls (.ref 0 :: st) w Q :=
  v_get (own2 := "") n hd hn (shX3 ) rfl inX3 (by decide : 2 < 15) (by rw [hM]; exact fl_X3_16) rfl h
theorem vg_X3_23 (hM : M.1 = RX3) (n : Nat) (hd : decode M.2.1 pc = .ok (.getfield 23, 3)) (hn : pc + 3 = n) (h : V M n ls (.ref (pr 0) :: st) w Q) : V M pc ls (.ref 0 :: st) w Q :=
  v_get (own2 := "") n hd hn (shX3 ) rfl inX3 (by decide : 3 < 15) (by rw [hM]; exact fl_X3_23) rfl h
theorem vg_X3_27 (hM : M.1 = RX3) (n : Nat) (hd : decode M.2.1 pc = .ok (.getfield 27, 3)) (hn : pc + 3 = n) (h : V M n ls (.ref (pr 1) :: st) w Q) : V M pc ls (.ref 0 :: st) w Q :=
  v_get (own2 := "") n hd hn (shX3 ) rfl inX3 (by decide : 4 < 15) (by rw [hM]; exact fl_X3_27) rfl h
theorem vg_X3_35 (hM : M.1 = RX3) (n : Nat) (hd : decode M.2.1 pc = .ok (.getfield 35, 3)) (hn : pc + 3 = n) (h : V M n ls (.ref (mr 0) :: st) w Q) : V M pc ls (.ref 0 :: st) w Q :=
  v_get (own2 := "") n hd hn (shX3 ) rfl inX3 (by decide : 5 < 15) (by rw [hM]; exact fl_X3_35) rfl h
theorem vg_X3_39 (hM : M.1 = RX3) (n : Nat) (hd : decode M.2.1 pc = .ok (.getfield 39, 3)) (hn : pc + 3 = n) (h : V M n ls (.ref (mr 1) :: st) w Q) : V M pc ls (.ref 0 :: st) w Q :=
  v_get (own2 := "") n hd hn (shX3 ) rfl inX3 (by decide : 7 < 15) (by rw [hM]; exact fl_X3_39) rfl h
theorem vg_X3_42 (hM : M.1 = RX3) (n : Nat) (hd : decode M.2.1 pc = .ok (.getfield 42, 3)) (hn : pc + 3 = n) (h : V M n ls (.ref 26 :: st) w Q) : V M pc ls (.ref 0 :: st) w Q :=
  v_get (own2 := "") n hd hn (shX3 ) rfl inX3 (by decide : 8 < 15) (by rw [hM]; exact fl_X3_42) rfl h
theorem vg_X3_46 (hM : M.1 = RX3) (n : Nat) (hd : decode M.2.1 pc = .ok (.getfield 46, 3)) (hn : pc + 3 = n) (h : V M n ls (.ref 27 :: st) w Q) : V M pc ls (.ref 0 :: st) w Q :=
  v_get (own2 := "") n hd hn (shX3 ) rfl inX3 (by decide : 9 < 15) (by rw [hM]; exact fl_X3_46) rfl h
theorem vg_X3_49 (hM : M.1 = RX3) (n : Nat) (hd : decode M.2.1 pc = .ok (.getfield 49, 3)) (hn : pc + 3 = n) (h : V M n ls (.ref 28 :: st) w Q) : V M pc ls (.ref 0 :: st) w Q :=
  v_get (own2 := "") n hd hn (shX3 ) rfl inX3 (by decide : 10 < 15) (by rw [hM]; exact fl_X3_49) rfl h
theorem vg_X3_52 (hM : M.1 = RX3) (n : Nat) (hd : decode M.2.1 pc = .ok (.getfield 52, 3)) (hn : pc + 3 = n) (h : V M n ls (.ref 29 :: st) w Q) : V M pc ls (.ref 0 :: st) w Q :=
  v_get (own2 := "") n hd hn (shX3 ) rfl inX3 (by decide : 11 < 15) (by rw [hM]; exact fl_X3_52) rfl h
theorem vg_X3_55 (hM : M.1 = RX3) (n : Nat) (hd : decode M.2.1 pc = .ok (.getfield 55, 3)) (hn : pc + 3 = n) (h : V M n ls (.ref 30 :: st) w Q) : V M pc ls (.ref 0 :: st) w Q :=
  v_get (own2 := "") n hd hn (shX3 ) rfl inX3 (by decide : 13 < 15) (by rw [hM]; exact fl_X3_55) rfl h
theorem vg_X3_58 (hM : M.1 = RX3) (n : Nat) (hd : decode M.2.1 pc = .ok (.getfield 58, 3)) (hn : pc + 3 = n) (h : V M n ls (.int (w.1 0) :: st) w Q) : V M pc ls (.ref 0 :: st) w Q :=
  v_get (own2 := "") n hd hn (shX3 ) rfl inX3 (by decide : 1 < 15) (by rw [hM]; exact fl_X3_58) rfl h
theorem vg_X3_70 (hM : M.1 = RX3) (n : Nat) (hd : decode M.2.1 pc = .ok (.getfield 70, 3)) (hn : pc + 3 = n) (h : V M n ls (.int (w.1 1) :: st) w Q) : V M pc ls (.ref 0 :: st) w Q :=
  v_get (own2 := "") n hd hn (shX3 ) rfl inX3 (by decide : 6 < 15) (by rw [hM]; exact fl_X3_70) rfl h
theorem vg_X3_73 {b : Nat} (hb : b < 2) (hM : M.1 = RX3) (n : Nat) (hd : decode M.2.1 pc = .ok (.getfield 73, 3)) (hn : pc + 3 = n) (h : V M n ls (.int (pn w b 0) :: st) w Q) : V M pc ls (.ref (pr b) :: st) w Q :=
  v_get (own2 := "") n hd hn (shX1 hb) rfl inX1 (by decide : 0 < 12) (by rw [hM]; exact fl_X3_73) rfl h
theorem vg_X3_76 {b : Nat} (hb : b < 2) (hM : M.1 = RX3) (n : Nat) (hd : decode M.2.1 pc = .ok (.getfield 76, 3)) (hn : pc + 3 = n) (h : V M n ls (.int (pn w b 1) :: st) w Q) : V M pc ls (.ref (pr b) :: st) w Q :=
  v_get (own2 := "") n hd hn (shX1 hb) rfl inX1 (by decide : 1 < 12) (by rw [hM]; exact fl_X3_76) rfl h
theorem vg_X3_83 {b : Nat} (hb : b < 2) (hM : M.1 = RX3) (n : Nat) (hd : decode M.2.1 pc = .ok (.getfield 83, 3)) (hn : pc + 3 = n) (h : V M n ls (.ref (ar b 0) :: st) w Q) : V M pc ls (.ref (pr b) :: st) w Q :=
  v_get (own2 := "") n hd hn (shX1 hb) rfl inX1 (by decide : 4 < 12) (by rw [hM]; exact fl_X3_83) rfl h
theorem vg_X3_86 {b : Nat} (hb : b < 2) (hM : M.1 = RX3) (n : Nat) (hd : decode M.2.1 pc = .ok (.getfield 86, 3)) (hn : pc + 3 = n) (h : V M n ls (.ref (ar b 1) :: st) w Q) : V M pc ls (.ref (pr b) :: st) w Q :=
  v_get (own2 := "") n hd hn (shX1 hb) rfl inX1 (by decide : 5 < 12) (by rw [hM]; exact fl_X3_86) rfl h
theorem vg_X3_89 {b : Nat} (hb : b < 2) (hM : M.1 = RX3) (n : Nat) (hd : decode M.2.1 pc = .ok (.getfield 89, 3)) (hn : pc + 3 = n) (h : V M n ls (.ref (ar b 2) :: st) w Q) : V M pc ls (.ref (pr b) :: st) w Q :=
  v_get (own2 := "") n hd hn (shX1 hb) rfl inX1 (by decide : 6 < 12) (by rw [hM]; exact fl_X3_89) rfl h
theorem vg_X3_102 {b : Nat} (hb : b < 2) (hM : M.1 = RX3) (n : Nat) (hd : decode M.2.1 pc = .ok (.getfield 102, 3)) (hn : pc + 3 = n) (h : V M n ls (.ref (ar b 4) :: st) w Q) : V M pc ls (.ref (pr b) :: st) w Q :=
  v_get (own2 := "") n hd hn (shX1 hb) rfl inX1 (by decide : 8 < 12) (by rw [hM]; exact fl_X3_102) rfl h
theorem vg_X3_105 {b : Nat} (hb : b < 2) (hM : M.1 = RX3) (n : Nat) (hd : decode M.2.1 pc = .ok (.getfield 105, 3)) (hn : pc + 3 = n) (h : V M n ls (.ref (ar b 3) :: st) w Q) : V M pc ls (.ref (pr b) :: st) w Q :=
  v_get (own2 := "") n hd hn (shX1 hb) rfl inX1 (by decide : 7 < 12) (by rw [hM]; exact fl_X3_105) rfl h
theorem vg_X3_111 {b : Nat} (hb : b < 2) (hM : M.1 = RX3) (n : Nat) (hd : decode M.2.1 pc = .ok (.getfield 111, 3)) (hn : pc + 3 = n) (h : V M n ls (.ref (ar b 5) :: st) w Q) : V M pc ls (.ref (pr b) :: st) w Q :=
  v_get (own2 := "") n hd hn (shX1 hb) rfl inX1 (by decide : 9 < 12) (by rw [hM]; exact fl_X3_111) rfl h
theorem vg_X3_114 {b : Nat} (hb : b < 2) (hM : M.1 = RX3) (n : Nat) (hd : decode M.2.1 pc = .ok (.getfield 114, 3)) (hn : pc + 3 = n) (h : V M n ls (.ref (ar b 6) :: st) w Q) : V M pc ls (.ref (pr b) :: st) w Q :=
  v_get (own2 := "") n hd hn (shX1 hb) rfl inX1 (by decide : 10 < 12) (by rw [hM]; exact fl_X3_114) rfl h
theorem vg_X3_123 {b : Nat} (hb : b < 2) (hM : M.1 = RX3) (n : Nat) (hd : decode M.2.1 pc = .ok (.getfield 123, 3)) (hn : pc + 3 = n) (h : V M n ls (.ref (ar b 7) :: st) w Q) : V M pc ls (.ref (pr b) :: st) w Q :=
  v_get (own2 := "") n hd hn (shX1 hb) rfl inX1 (by decide : 11 < 12) (by rw [hM]; exact fl_X3_123) rfl h
theorem vg_X3_161 {b : Nat} (hb : b < 2) (hM : M.1 = RX3) (n : Nat) (hd : decode M.2.1 pc = .ok (.getfield 161, 3)) (hn : pc + 3 = n) (h : V M n ls (.int (pn w b 3) :: st) w Q) : V M pc ls (.ref (pr b) :: st) w Q :=
  v_get (own2 := "") n hd hn (shX1 hb) rfl inX1 (by decide : 3 < 12) (by rw [hM]; exact fl_X3_161) rfl h
theorem vg_X3_187 (hM : M.1 = RX3) (n : Nat) (hd : decode M.2.1 pc = .ok (.getfield 187, 3)) (hn : pc + 3 = n) (h : V M n ls (.int (w.1 2) :: st) w Q) : V M pc ls (.ref 0 :: st) w Q :=
  v_get (own2 := "") n hd hn (shX3 ) rfl inX3 (by decide : 12 < 15) (by rw [hM]; exact fl_X3_187) rfl h
theorem vg_X3_218 (hM : M.1 = RX3) (n : Nat) (hd : decode M.2.1 pc = .ok (.getfield 218, 3)) (hn : pc + 3 = n) (h : V M n ls (.long (w.2.1 0) :: st) w Q) : V M pc ls (.ref 0 :: st) w Q :=
  v_get (own2 := "") n hd hn (shX3 ) rfl inX3 (by decide : 14 < 15) (by rw [hM]; exact fl_X3_218) rfl h
theorem vg_X3_234 {b : Nat} (hb : b < 2) (hM : M.1 = RX3) (n : Nat) (hd : decode M.2.1 pc = .ok (.getfield 234, 3)) (hn : pc + 3 = n) (h : V M n ls (.int (pn w b 2) :: st) w Q) : V M pc ls (.ref (pr b) :: st) w Q :=
  v_get (own2 := "") n hd hn (shX1 hb) rfl inX1 (by decide : 2 < 12) (by rw [hM]; exact fl_X3_234) rfl h
theorem vg_X0_17 {g : Nat} (hg : g < 2) (hM : M.1 = RX0) (n : Nat) (hd : decode M.2.1 pc = .ok (.getfield 17, 3)) (hn : pc + 3 = n) (h : V M n ls (.ref (mc g) :: st) w Q) : V M pc ls (.ref (mr g) :: st) w Q :=
  v_get (own2 := "") n hd hn (shX0 hg) rfl inX0 (by decide : 0 < 1) (by rw [hM]; exact fl_X0_17) rfl h
theorem vg_X0_25 {b : Nat} (hb : b < 2) (hM : M.1 = RX0) (n : Nat) (hd : decode M.2.1 pc = .ok (.getfield 25, 3)) (hn : pc + 3 = n) (h : V M n ls (.ref (ar b 0) :: st) w Q) : V M pc ls (.ref (pr b) :: st) w Q :=
  v_get (own2 := "") n hd hn (shX1 hb) rfl inX1 (by decide : 4 < 12) (by rw [hM]; exact fl_X0_25) rfl h
theorem vg_X0_36 {b : Nat} (hb : b < 2) (hM : M.1 = RX0) (n : Nat) (hd : decode M.2.1 pc = .ok (.getfield 36, 3)) (hn : pc + 3 = n) (h : V M n ls (.ref (ar b 1) :: st) w Q) : V M pc ls (.ref (pr b) :: st) w Q :=
  v_get (own2 := "") n hd hn (shX1 hb) rfl inX1 (by decide : 5 < 12) (by rw [hM]; exact fl_X0_36) rfl h
theorem vg_X0_39 {b : Nat} (hb : b < 2) (hM : M.1 = RX0) (n : Nat) (hd : decode M.2.1 pc = .ok (.getfield 39, 3)) (hn : pc + 3 = n) (h : V M n ls (.ref (ar b 3) :: st) w Q) : V M pc ls (.ref (pr b) :: st) w Q :=
  v_get (own2 := "") n hd hn (shX1 hb) rfl inX1 (by decide : 7 < 12) (by rw [hM]; exact fl_X0_39) rfl h
theorem vg_X0_42 {b : Nat} (hb : b < 2) (hM : M.1 = RX0) (n : Nat) (hd : decode M.2.1 pc = .ok (.getfield 42, 3)) (hn : pc + 3 = n) (h : V M n ls (.ref (ar b 4) :: st) w Q) : V M pc ls (.ref (pr b) :: st) w Q :=
  v_get (own2 := "") n hd hn (shX1 hb) rfl inX1 (by decide : 8 < 12) (by rw [hM]; exact fl_X0_42) rfl h
theorem vg_X0_45 {b : Nat} (hb : b < 2) (hM : M.1 = RX0) (n : Nat) (hd : decode M.2.1 pc = .ok (.getfield 45, 3)) (hn : pc + 3 = n) (h : V M n ls (.ref (ar b 5) :: st) w Q) : V M pc ls (.ref (pr b) :: st) w Q :=
  v_get (own2 := "") n hd hn (shX1 hb) rfl inX1 (by decide : 9 < 12) (by rw [hM]; exact fl_X0_45) rfl h
theorem vg_X0_48 {b : Nat} (hb : b < 2) (hM : M.1 = RX0) (n : Nat) (hd : decode M.2.1 pc = .ok (.getfield 48, 3)) (hn : pc + 3 = n) (h : V M n ls (.ref (ar b 7) :: st) w Q) : V M pc ls (.ref (pr b) :: st) w Q :=
  v_get (own2 := "") n hd hn (shX1 hb) rfl inX1 (by decide : 11 < 12) (by rw [hM]; exact fl_X0_48) rfl h
theorem vg_X0_51 {b : Nat} (hb : b < 2) (hM : M.1 = RX0) (n : Nat) (hd : decode M.2.1 pc = .ok (.getfield 51, 3)) (hn : pc + 3 = n) (h : V M n ls (.int (pn w b 3) :: st) w Q) : V M pc ls (.ref (pr b) :: st) w Q :=
  v_get (own2 := "") n hd hn (shX1 hb) rfl inX1 (by decide : 3 < 12) (by rw [hM]; exact fl_X0_51) rfl h
theorem vg_X0_55 {b : Nat} (hb : b < 2) (hM : M.1 = RX0) (n : Nat) (hd : decode M.2.1 pc = .ok (.getfield 55, 3)) (hn : pc + 3 = n) (h : V M n ls (.int (pn w b 2) :: st) w Q) : V M pc ls (.ref (pr b) :: st) w Q :=
  v_get (own2 := "") n hd hn (shX1 hb) rfl inX1 (by decide : 2 < 12) (by rw [hM]; exact fl_X0_55) rfl h
theorem vg_X1_9 {b : Nat} (hb : b < 2) (hM : M.1 = RX1) (n : Nat) (hd : decode M.2.1 pc = .ok (.getfield 9, 3)) (hn : pc + 3 = n) (h : V M n ls (.ref (ar b 0) :: st) w Q) : V M pc ls (.ref (pr b) :: st) w Q :=
  v_get (own2 := "") n hd hn (shX1 hb) rfl inX1 (by decide : 4 < 12) (by rw [hM]; exact fl_X1_9) rfl h
theorem vg_X1_15 {b : Nat} (hb : b < 2) (hM : M.1 = RX1) (n : Nat) (hd : decode M.2.1 pc = .ok (.getfield 15, 3)) (hn : pc + 3 = n) (h : V M n ls (.ref (ar b 1) :: st) w Q) : V M pc ls (.ref (pr b) :: st) w Q :=
  v_get (own2 := "") n hd hn (shX1 hb) rfl inX1 (by decide : 5 < 12) (by rw [hM]; exact fl_X1_15) rfl h
theorem vg_X1_18 {b : Nat} (hb : b < 2) (hM : M.1 = RX1) (n : Nat) (hd : decode M.2.1 pc = .ok (.getfield 18, 3)) (hn : pc + 3 = n) (h : V M n ls (.ref (ar b 2) :: st) w Q) : V M pc ls (.ref (pr b) :: st) w Q :=
  v_get (own2 := "") n hd hn (shX1 hb) rfl inX1 (by decide : 6 < 12) (by rw [hM]; exact fl_X1_18) rfl h
theorem vg_X1_21 {b : Nat} (hb : b < 2) (hM : M.1 = RX1) (n : Nat) (hd : decode M.2.1 pc = .ok (.getfield 21, 3)) (hn : pc + 3 = n) (h : V M n ls (.ref (ar b 3) :: st) w Q) : V M pc ls (.ref (pr b) :: st) w Q :=
  v_get (own2 := "") n hd hn (shX1 hb) rfl inX1 (by decide : 7 < 12) (by rw [hM]; exact fl_X1_21) rfl h
theorem vg_X1_24 {b : Nat} (hb : b < 2) (hM : M.1 = RX1) (n : Nat) (hd : decode M.2.1 pc = .ok (.getfield 24, 3)) (hn : pc + 3 = n) (h : V M n ls (.ref (ar b 4) :: st) w Q) : V M pc ls (.ref (pr b) :: st) w Q :=
  v_get (own2 := "") n hd hn (shX1 hb) rfl inX1 (by decide : 8 < 12) (by rw [hM]; exact fl_X1_24) rfl h
theorem vg_X1_27 {b : Nat} (hb : b < 2) (hM : M.1 = RX1) (n : Nat) (hd : decode M.2.1 pc = .ok (.getfield 27, 3)) (hn : pc + 3 = n) (h : V M n ls (.ref (ar b 5) :: st) w Q) : V M pc ls (.ref (pr b) :: st) w Q :=
  v_get (own2 := "") n hd hn (shX1 hb) rfl inX1 (by decide : 9 < 12) (by rw [hM]; exact fl_X1_27) rfl h
theorem vg_X1_30 {b : Nat} (hb : b < 2) (hM : M.1 = RX1) (n : Nat) (hd : decode M.2.1 pc = .ok (.getfield 30, 3)) (hn : pc + 3 = n) (h : V M n ls (.ref (ar b 6) :: st) w Q) : V M pc ls (.ref (pr b) :: st) w Q :=
  v_get (own2 := "") n hd hn (shX1 hb) rfl inX1 (by decide : 10 < 12) (by rw [hM]; exact fl_X1_30) rfl h
theorem vg_X1_33 {b : Nat} (hb : b < 2) (hM : M.1 = RX1) (n : Nat) (hd : decode M.2.1 pc = .ok (.getfield 33, 3)) (hn : pc + 3 = n) (h : V M n ls (.ref (ar b 7) :: st) w Q) : V M pc ls (.ref (pr b) :: st) w Q :=
  v_get (own2 := "") n hd hn (shX1 hb) rfl inX1 (by decide : 11 < 12) (by rw [hM]; exact fl_X1_33) rfl h
theorem vg_X1_36 {b : Nat} (hb : b < 2) (hM : M.1 = RX1) (n : Nat) (hd : decode M.2.1 pc = .ok (.getfield 36, 3)) (hn : pc + 3 = n) (h : V M n ls (.int (pn w b 0) :: st) w Q) : V M pc ls (.ref (pr b) :: st) w Q :=
  v_get (own2 := "") n hd hn (shX1 hb) rfl inX1 (by decide : 0 < 12) (by rw [hM]; exact fl_X1_36) rfl h
theorem vg_X1_40 {b : Nat} (hb : b < 2) (hM : M.1 = RX1) (n : Nat) (hd : decode M.2.1 pc = .ok (.getfield 40, 3)) (hn : pc + 3 = n) (h : V M n ls (.int (pn w b 1) :: st) w Q) : V M pc ls (.ref (pr b) :: st) w Q :=
  v_get (own2 := "") n hd hn (shX1 hb) rfl inX1 (by decide : 1 < 12) (by rw [hM]; exact fl_X1_40) rfl h
theorem vg_X1_43 {b : Nat} (hb : b < 2) (hM : M.1 = RX1) (n : Nat) (hd : decode M.2.1 pc = .ok (.getfield 43, 3)) (hn : pc + 3 = n) (h : V M n ls (.int (pn w b 2) :: st) w Q) : V M pc ls (.ref (pr b) :: st) w Q :=
  v_get (own2 := "") n hd hn (shX1 hb) rfl inX1 (by decide : 2 < 12) (by rw [hM]; exact fl_X1_43) rfl h
theorem vg_X1_46 {b : Nat} (hb : b < 2) (hM : M.1 = RX1) (n : Nat) (hd : decode M.2.1 pc = .ok (.getfield 46, 3)) (hn : pc + 3 = n) (h : V M n ls (.int (pn w b 3) :: st) w Q) : V M pc ls (.ref (pr b) :: st) w Q :=
  v_get (own2 := "") n hd hn (shX1 hb) rfl inX1 (by decide : 3 < 12) (by rw [hM]; exact fl_X1_46) rfl h
theorem vg_X2_9 (hM : M.1 = RX2) (n : Nat) (hd : decode M.2.1 pc = .ok (.getfield 9, 3)) (hn : pc + 3 = n) (h : V M n ls (.int (w.1 3) :: st) w Q) : V M pc ls (.ref 2 :: st) w Q :=
  v_get (own2 := "") n hd hn (shX2 ) rfl inX2 (by decide : 0 < 5) (by rw [hM]; exact fl_X2_9) rfl h
theorem vg_X2_15 (hM : M.1 = RX2) (n : Nat) (hd : decode M.2.1 pc = .ok (.getfield 15, 3)) (hn : pc + 3 = n) (h : V M n ls (.int (w.1 4) :: st) w Q) : V M pc ls (.ref 2 :: st) w Q :=
  v_get (own2 := "") n hd hn (shX2 ) rfl inX2 (by decide : 1 < 5) (by rw [hM]; exact fl_X2_15) rfl h
theorem vg_X2_32 {b : Nat} (hb : b < 2) (hM : M.1 = RX2) (n : Nat) (hd : decode M.2.1 pc = .ok (.getfield 32, 3)) (hn : pc + 3 = n) (h : V M n ls (.int (pn w b 0) :: st) w Q) : V M pc ls (.ref (pr b) :: st) w Q :=
  v_get (own2 := "") n hd hn (shX1 hb) rfl inX1 (by decide : 0 < 12) (by rw [hM]; exact fl_X2_32) rfl h
theorem vg_X2_41 {b : Nat} (hb : b < 2) (hM : M.1 = RX2) (n : Nat) (hd : decode M.2.1 pc = .ok (.getfield 41, 3)) (hn : pc + 3 = n) (h : V M n ls (.int (pn w b 1) :: st) w Q) : V M pc ls (.ref (pr b) :: st) w Q :=
  v_get (own2 := "") n hd hn (shX1 hb) rfl inX1 (by decide : 1 < 12) (by rw [hM]; exact fl_X2_41) rfl h
theorem vg_X2_44 (hM : M.1 = RX2) (n : Nat) (hd : decode M.2.1 pc = .ok (.getfield 44, 3)) (hn : pc + 3 = n) (h : V M n ls (.int (w.1 5) :: st) w Q) : V M pc ls (.ref 2 :: st) w Q :=
  v_get (own2 := "") n hd hn (shX2 ) rfl inX2 (by decide : 2 < 5) (by rw [hM]; exact fl_X2_44) rfl h
theorem vg_X2_51 (hM : M.1 = RX2) (n : Nat) (hd : decode M.2.1 pc = .ok (.getfield 51, 3)) (hn : pc + 3 = n) (h : V M n ls (.int (w.1 6) :: st) w Q) : V M pc ls (.ref 2 :: st) w Q :=
  v_get (own2 := "") n hd hn (shX2 ) rfl inX2 (by decide : 3 < 5) (by rw [hM]; exact fl_X2_51) rfl h
theorem vg_X2_54 (hM : M.1 = RX2) (n : Nat) (hd : decode M.2.1 pc = .ok (.getfield 54, 3)) (hn : pc + 3 = n) (h : V M n ls (.int (w.1 7) :: st) w Q) : V M pc ls (.ref 2 :: st) w Q :=
  v_get (own2 := "") n hd hn (shX2 ) rfl inX2 (by decide : 4 < 5) (by rw [hM]; exact fl_X2_54) rfl h
theorem vg_X4_7 (hM : M.1 = RX4) (n : Nat) (hd : decode M.2.1 pc = .ok (.getfield 7, 3)) (hn : pc + 3 = n) (h : V M n ls (.ref 31 :: st) w Q) : V M pc ls (.ref 1 :: st) w Q :=
  v_get (own2 := "") n hd hn (shX4 ) rfl inX4 (by decide : 2 < 24) (by rw [hM]; exact fl_X4_7) rfl h
theorem vg_X4_13 (hM : M.1 = RX4) (n : Nat) (hd : decode M.2.1 pc = .ok (.getfield 13, 3)) (hn : pc + 3 = n) (h : V M n ls (.ref 32 :: st) w Q) : V M pc ls (.ref 1 :: st) w Q :=
  v_get (own2 := "") n hd hn (shX4 ) rfl inX4 (by decide : 3 < 24) (by rw [hM]; exact fl_X4_13) rfl h
theorem vg_X4_16 (hM : M.1 = RX4) (n : Nat) (hd : decode M.2.1 pc = .ok (.getfield 16, 3)) (hn : pc + 3 = n) (h : V M n ls (.ref 33 :: st) w Q) : V M pc ls (.ref 1 :: st) w Q :=
  v_get (own2 := "") n hd hn (shX4 ) rfl inX4 (by decide : 4 < 24) (by rw [hM]; exact fl_X4_16) rfl h
theorem vg_X4_19 (hM : M.1 = RX4) (n : Nat) (hd : decode M.2.1 pc = .ok (.getfield 19, 3)) (hn : pc + 3 = n) (h : V M n ls (.ref 34 :: st) w Q) : V M pc ls (.ref 1 :: st) w Q :=
  v_get (own2 := "") n hd hn (shX4 ) rfl inX4 (by decide : 5 < 24) (by rw [hM]; exact fl_X4_19) rfl h
theorem vg_X4_22 (hM : M.1 = RX4) (n : Nat) (hd : decode M.2.1 pc = .ok (.getfield 22, 3)) (hn : pc + 3 = n) (h : V M n ls (.ref 35 :: st) w Q) : V M pc ls (.ref 1 :: st) w Q :=
  v_get (own2 := "") n hd hn (shX4 ) rfl inX4 (by decide : 6 < 24) (by rw [hM]; exact fl_X4_22) rfl h
theorem vg_X4_25 (hM : M.1 = RX4) (n : Nat) (hd : decode M.2.1 pc = .ok (.getfield 25, 3)) (hn : pc + 3 = n) (h : V M n ls (.ref 36 :: st) w Q) : V M pc ls (.ref 1 :: st) w Q :=
  v_get (own2 := "") n hd hn (shX4 ) rfl inX4 (by decide : 7 < 24) (by rw [hM]; exact fl_X4_25) rfl h
theorem vg_X4_28 (hM : M.1 = RX4) (n : Nat) (hd : decode M.2.1 pc = .ok (.getfield 28, 3)) (hn : pc + 3 = n) (h : V M n ls (.ref 37 :: st) w Q) : V M pc ls (.ref 1 :: st) w Q :=
  v_get (own2 := "") n hd hn (shX4 ) rfl inX4 (by decide : 10 < 24) (by rw [hM]; exact fl_X4_28) rfl h
theorem vg_X4_31 (hM : M.1 = RX4) (n : Nat) (hd : decode M.2.1 pc = .ok (.getfield 31, 3)) (hn : pc + 3 = n) (h : V M n ls (.ref 38 :: st) w Q) : V M pc ls (.ref 1 :: st) w Q :=
  v_get (own2 := "") n hd hn (shX4 ) rfl inX4 (by decide : 16 < 24) (by rw [hM]; exact fl_X4_31) rfl h
theorem vg_X4_34 (hM : M.1 = RX4) (n : Nat) (hd : decode M.2.1 pc = .ok (.getfield 34, 3)) (hn : pc + 3 = n) (h : V M n ls (.ref 39 :: st) w Q) : V M pc ls (.ref 1 :: st) w Q :=
  v_get (own2 := "") n hd hn (shX4 ) rfl inX4 (by decide : 18 < 24) (by rw [hM]; exact fl_X4_34) rfl h
theorem vg_X4_37 (hM : M.1 = RX4) (n : Nat) (hd : decode M.2.1 pc = .ok (.getfield 37, 3)) (hn : pc + 3 = n) (h : V M n ls (.ref 40 :: st) w Q) : V M pc ls (.ref 1 :: st) w Q :=
  v_get (own2 := "") n hd hn (shX4 ) rfl inX4 (by decide : 19 < 24) (by rw [hM]; exact fl_X4_37) rfl h
theorem vg_X4_40 (hM : M.1 = RX4) (n : Nat) (hd : decode M.2.1 pc = .ok (.getfield 40, 3)) (hn : pc + 3 = n) (h : V M n ls (.ref 41 :: st) w Q) : V M pc ls (.ref 1 :: st) w Q :=
  v_get (own2 := "") n hd hn (shX4 ) rfl inX4 (by decide : 20 < 24) (by rw [hM]; exact fl_X4_40) rfl h
theorem vg_X4_43 (hM : M.1 = RX4) (n : Nat) (hd : decode M.2.1 pc = .ok (.getfield 43, 3)) (hn : pc + 3 = n) (h : V M n ls (.ref 42 :: st) w Q) : V M pc ls (.ref 1 :: st) w Q :=
  v_get (own2 := "") n hd hn (shX4 ) rfl inX4 (by decide : 22 < 24) (by rw [hM]; exact fl_X4_43) rfl h
theorem vg_X4_47 (hM : M.1 = RX4) (n : Nat) (hd : decode M.2.1 pc = .ok (.getfield 47, 3)) (hn : pc + 3 = n) (h : V M n ls (.ref 43 :: st) w Q) : V M pc ls (.ref 1 :: st) w Q :=
  v_get (own2 := "") n hd hn (shX4 ) rfl inX4 (by decide : 23 < 24) (by rw [hM]; exact fl_X4_47) rfl h
theorem vg_X4_50 (hM : M.1 = RX4) (n : Nat) (hd : decode M.2.1 pc = .ok (.getfield 50, 3)) (hn : pc + 3 = n) (h : V M n ls (.int (w.1 16) :: st) w Q) : V M pc ls (.ref 1 :: st) w Q :=
  v_get (own2 := "") n hd hn (shX4 ) rfl inX4 (by decide : 0 < 24) (by rw [hM]; exact fl_X4_50) rfl h
theorem vg_X4_60 (hM : M.1 = RX4) (n : Nat) (hd : decode M.2.1 pc = .ok (.getfield 60, 3)) (hn : pc + 3 = n) (h : V M n ls (.int (w.1 20) :: st) w Q) : V M pc ls (.ref 1 :: st) w Q :=
  v_get (own2 := "") n hd hn (shX4 ) rfl inX4 (by decide : 11 < 24) (by rw [hM]; exact fl_X4_60) rfl h
theorem vg_X4_63 (hM : M.1 = RX4) (n : Nat) (hd : decode M.2.1 pc = .ok (.getfield 63, 3)) (hn : pc + 3 = n) (h : V M n ls (.int (w.1 22) :: st) w Q) : V M pc ls (.ref 1 :: st) w Q :=
  v_get (own2 := "") n hd hn (shX4 ) rfl inX4 (by decide : 13 < 24) (by rw [hM]; exact fl_X4_63) rfl h
theorem vg_X4_66 (hM : M.1 = RX4) (n : Nat) (hd : decode M.2.1 pc = .ok (.getfield 66, 3)) (hn : pc + 3 = n) (h : V M n ls (.int (w.1 21) :: st) w Q) : V M pc ls (.ref 1 :: st) w Q :=
  v_get (own2 := "") n hd hn (shX4 ) rfl inX4 (by decide : 12 < 24) (by rw [hM]; exact fl_X4_66) rfl h
theorem vg_X4_75 (hM : M.1 = RX4) (n : Nat) (hd : decode M.2.1 pc = .ok (.getfield 75, 3)) (hn : pc + 3 = n) (h : V M n ls (.int (w.1 18) :: st) w Q) : V M pc ls (.ref 1 :: st) w Q :=
  v_get (own2 := "") n hd hn (shX4 ) rfl inX4 (by decide : 8 < 24) (by rw [hM]; exact fl_X4_75) rfl h
theorem vg_X4_82 (hM : M.1 = RX4) (n : Nat) (hd : decode M.2.1 pc = .ok (.getfield 82, 3)) (hn : pc + 3 = n) (h : V M n ls (.int (w.1 19) :: st) w Q) : V M pc ls (.ref 1 :: st) w Q :=
  v_get (own2 := "") n hd hn (shX4 ) rfl inX4 (by decide : 9 < 24) (by rw [hM]; exact fl_X4_82) rfl h
theorem vg_X4_99 (hM : M.1 = RX4) (n : Nat) (hd : decode M.2.1 pc = .ok (.getfield 99, 3)) (hn : pc + 3 = n) (h : V M n ls (.int (w.1 17) :: st) w Q) : V M pc ls (.ref 1 :: st) w Q :=
  v_get (own2 := "") n hd hn (shX4 ) rfl inX4 (by decide : 1 < 24) (by rw [hM]; exact fl_X4_99) rfl h
theorem vg_X4_102 (hM : M.1 = RX4) (n : Nat) (hd : decode M.2.1 pc = .ok (.getfield 102, 3)) (hn : pc + 3 = n) (h : V M n ls (.int (w.1 23) :: st) w Q) : V M pc ls (.ref 1 :: st) w Q :=
  v_get (own2 := "") n hd hn (shX4 ) rfl inX4 (by decide : 14 < 24) (by rw [hM]; exact fl_X4_102) rfl h
theorem vg_X4_138 (hM : M.1 = RX4) (n : Nat) (hd : decode M.2.1 pc = .ok (.getfield 138, 3)) (hn : pc + 3 = n) (h : V M n ls (.int (w.1 24) :: st) w Q) : V M pc ls (.ref 1 :: st) w Q :=
  v_get (own2 := "") n hd hn (shX4 ) rfl inX4 (by decide : 15 < 24) (by rw [hM]; exact fl_X4_138) rfl h
theorem vg_X4_193 (hM : M.1 = RX4) (n : Nat) (hd : decode M.2.1 pc = .ok (.getfield 193, 3)) (hn : pc + 3 = n) (h : V M n ls (.int (w.1 25) :: st) w Q) : V M pc ls (.ref 1 :: st) w Q :=
  v_get (own2 := "") n hd hn (shX4 ) rfl inX4 (by decide : 17 < 24) (by rw [hM]; exact fl_X4_193) rfl h
theorem vg_X4_214 (hM : M.1 = RX4) (n : Nat) (hd : decode M.2.1 pc = .ok (.getfield 214, 3)) (hn : pc + 3 = n) (h : V M n ls (.long (w.2.1 1) :: st) w Q) : V M pc ls (.ref 1 :: st) w Q :=
  v_get (own2 := "") n hd hn (shX4 ) rfl inX4 (by decide : 21 < 24) (by rw [hM]; exact fl_X4_214) rfl h
theorem vs_X3_58 {x : Int32} (hM : M.1 = RX3) (n : Nat) (hd : decode M.2.1 pc = .ok (.putfield 58, 3)) (hn : pc + 3 = n) (h : V M n ls st (sI w 0 x) Q) : V M pc ls (.int x :: .ref 0 :: st) w Q :=
  v_put (ty := .int) (ty0 := tyX3) n hd hn (shX3 ) (spX3_length ) rfl inX3 tyX3_ok nmX3 (by decide : 1 < 15) (by rw [hM]; exact fl_X3_58) rfl (by decide +kernel) (by simp) (fun _ => rfl) rfl rfl h
theorem vs_X3_70 {x : Int32} (hM : M.1 = RX3) (n : Nat) (hd : decode M.2.1 pc = .ok (.putfield 70, 3)) (hn : pc + 3 = n) (h : V M n ls st (sI w 1 x) Q) : V M pc ls (.int x :: .ref 0 :: st) w Q :=
  v_put (ty := .int) (ty0 := tyX3) n hd hn (shX3 ) (spX3_actCount ) rfl inX3 tyX3_ok nmX3 (by decide : 6 < 15) (by rw [hM]; exact fl_X3_70) rfl (by decide +kernel) (by simp) (fun _ => rfl) rfl rfl h
theorem vs_X3_161 {b : Nat} (hb : b < 2) {x : Int32} (hM : M.1 = RX3) (n : Nat) (hd : decode M.2.1 pc = .ok (.putfield 161, 3)) (hn : pc + 3 = n) (hz : x = 0 ∨ x = 1) (h : V M n ls st (sI w (pj b 3) x) Q) : V M pc ls (.int x :: .ref (pr b) :: st) w Q :=
  v_put (ty := .boolean) (ty0 := tyX1) n hd hn (shX1 hb) (spX1_damp hb) rfl inX1 tyX1_ok nmX1 (by decide : 3 < 12) (by rw [hM]; exact fl_X3_161) rfl (by decide +kernel) (by simp) (fun _ => rfl) (zn hz) (fits_z hz) h
theorem vs_X3_187 {x : Int32} (hM : M.1 = RX3) (n : Nat) (hd : decode M.2.1 pc = .ok (.putfield 187, 3)) (hn : pc + 3 = n) (h : V M n ls st (sI w 2 x) Q) : V M pc ls (.int x :: .ref 0 :: st) w Q :=
  v_put (ty := .int) (ty0 := tyX3) n hd hn (shX3 ) (spX3_seenCount ) rfl inX3 tyX3_ok nmX3 (by decide : 12 < 15) (by rw [hM]; exact fl_X3_187) rfl (by decide +kernel) (by simp) (fun _ => rfl) rfl rfl h
theorem vs_X3_218 {x : Int64} (hM : M.1 = RX3) (n : Nat) (hd : decode M.2.1 pc = .ok (.putfield 218, 3)) (hn : pc + 3 = n) (h : V M n ls st (sJ w 0 x) Q) : V M pc ls (.long x :: .ref 0 :: st) w Q :=
  v_put (ty := .long) (ty0 := tyX3) n hd hn (shX3 ) (spX3_seed ) rfl inX3 tyX3_ok nmX3 (by decide : 14 < 15) (by rw [hM]; exact fl_X3_218) rfl (by decide +kernel) (by simp) (fun _ => rfl) rfl rfl h
theorem vs_X0_51 {b : Nat} (hb : b < 2) {x : Int32} (hM : M.1 = RX0) (n : Nat) (hd : decode M.2.1 pc = .ok (.putfield 51, 3)) (hn : pc + 3 = n) (hz : x = 0 ∨ x = 1) (h : V M n ls st (sI w (pj b 3) x) Q) : V M pc ls (.int x :: .ref (pr b) :: st) w Q :=
  v_put (ty := .boolean) (ty0 := tyX1) n hd hn (shX1 hb) (spX1_damp hb) rfl inX1 tyX1_ok nmX1 (by decide : 3 < 12) (by rw [hM]; exact fl_X0_51) rfl (by decide +kernel) (by simp) (fun _ => rfl) (zn hz) (fits_z hz) h
theorem vs_X0_55 {b : Nat} (hb : b < 2) {x : Int32} (hM : M.1 = RX0) (n : Nat) (hd : decode M.2.1 pc = .ok (.putfield 55, 3)) (hn : pc + 3 = n) (h : V M n ls st (sI w (pj b 2) x) Q) : V M pc ls (.int x :: .ref (pr b) :: st) w Q :=
  v_put (ty := .int) (ty0 := tyX1) n hd hn (shX1 hb) (spX1_week hb) rfl inX1 tyX1_ok nmX1 (by decide : 2 < 12) (by rw [hM]; exact fl_X0_55) rfl (by decide +kernel) (by simp) (fun _ => rfl) rfl rfl h
theorem vs_X1_36 {b : Nat} (hb : b < 2) {x : Int32} (hM : M.1 = RX1) (n : Nat) (hd : decode M.2.1 pc = .ok (.putfield 36, 3)) (hn : pc + 3 = n) (h : V M n ls st (sI w (pj b 0) x) Q) : V M pc ls (.int x :: .ref (pr b) :: st) w Q :=
  v_put (ty := .int) (ty0 := tyX1) n hd hn (shX1 hb) (spX1_stamps hb) rfl inX1 tyX1_ok nmX1 (by decide : 0 < 12) (by rw [hM]; exact fl_X1_36) rfl (by decide +kernel) (by simp) (fun _ => rfl) rfl rfl h
theorem vs_X1_40 {b : Nat} (hb : b < 2) {x : Int32} (hM : M.1 = RX1) (n : Nat) (hd : decode M.2.1 pc = .ok (.putfield 40, 3)) (hn : pc + 3 = n) (h : V M n ls st (sI w (pj b 1) x) Q) : V M pc ls (.int x :: .ref (pr b) :: st) w Q :=
  v_put (ty := .int) (ty0 := tyX1) n hd hn (shX1 hb) (spX1_letters hb) rfl inX1 tyX1_ok nmX1 (by decide : 1 < 12) (by rw [hM]; exact fl_X1_40) rfl (by decide +kernel) (by simp) (fun _ => rfl) rfl rfl h
theorem vs_X1_43 {b : Nat} (hb : b < 2) {x : Int32} (hM : M.1 = RX1) (n : Nat) (hd : decode M.2.1 pc = .ok (.putfield 43, 3)) (hn : pc + 3 = n) (h : V M n ls st (sI w (pj b 2) x) Q) : V M pc ls (.int x :: .ref (pr b) :: st) w Q :=
  v_put (ty := .int) (ty0 := tyX1) n hd hn (shX1 hb) (spX1_week hb) rfl inX1 tyX1_ok nmX1 (by decide : 2 < 12) (by rw [hM]; exact fl_X1_43) rfl (by decide +kernel) (by simp) (fun _ => rfl) rfl rfl h
theorem vs_X1_46 {b : Nat} (hb : b < 2) {x : Int32} (hM : M.1 = RX1) (n : Nat) (hd : decode M.2.1 pc = .ok (.putfield 46, 3)) (hn : pc + 3 = n) (hz : x = 0 ∨ x = 1) (h : V M n ls st (sI w (pj b 3) x) Q) : V M pc ls (.int x :: .ref (pr b) :: st) w Q :=
  v_put (ty := .boolean) (ty0 := tyX1) n hd hn (shX1 hb) (spX1_damp hb) rfl inX1 tyX1_ok nmX1 (by decide : 3 < 12) (by rw [hM]; exact fl_X1_46) rfl (by decide +kernel) (by simp) (fun _ => rfl) (zn hz) (fits_z hz) h
theorem vs_X2_9 {x : Int32} (hM : M.1 = RX2) (n : Nat) (hd : decode M.2.1 pc = .ok (.putfield 9, 3)) (hn : pc + 3 = n) (hz : x = 0 ∨ x = 1) (h : V M n ls st (sI w 3 x) Q) : V M pc ls (.int x :: .ref 2 :: st) w Q :=
  v_put (ty := .boolean) (ty0 := tyX2) n hd hn (shX2 ) (spX2_begun ) rfl inX2 tyX2_ok nmX2 (by decide : 0 < 5) (by rw [hM]; exact fl_X2_9) rfl (by decide +kernel) (by simp) (fun _ => rfl) (zn hz) (fits_z hz) h
theorem vs_X2_15 {x : Int32} (hM : M.1 = RX2) (n : Nat) (hd : decode M.2.1 pc = .ok (.putfield 15, 3)) (hn : pc + 3 = n) (h : V M n ls st (sI w 4 x) Q) : V M pc ls (.int x :: .ref 2 :: st) w Q :=
  v_put (ty := .int) (ty0 := tyX2) n hd hn (shX2 ) (spX2_part ) rfl inX2 tyX2_ok nmX2 (by decide : 1 < 5) (by rw [hM]; exact fl_X2_15) rfl (by decide +kernel) (by simp) (fun _ => rfl) rfl rfl h
theorem vs_X2_44 {x : Int32} (hM : M.1 = RX2) (n : Nat) (hd : decode M.2.1 pc = .ok (.putfield 44, 3)) (hn : pc + 3 = n) (h : V M n ls st (sI w 5 x) Q) : V M pc ls (.int x :: .ref 2 :: st) w Q :=
  v_put (ty := .int) (ty0 := tyX2) n hd hn (shX2 ) (spX2_figures ) rfl inX2 tyX2_ok nmX2 (by decide : 2 < 5) (by rw [hM]; exact fl_X2_44) rfl (by decide +kernel) (by simp) (fun _ => rfl) rfl rfl h
theorem vs_X2_51 {x : Int32} (hM : M.1 = RX2) (n : Nat) (hd : decode M.2.1 pc = .ok (.putfield 51, 3)) (hn : pc + 3 = n) (h : V M n ls st (sI w 6 x) Q) : V M pc ls (.int x :: .ref 2 :: st) w Q :=
  v_put (ty := .int) (ty0 := tyX2) n hd hn (shX2 ) (spX2_first ) rfl inX2 tyX2_ok nmX2 (by decide : 3 < 5) (by rw [hM]; exact fl_X2_51) rfl (by decide +kernel) (by simp) (fun _ => rfl) rfl rfl h
theorem vs_X2_54 {x : Int32} (hM : M.1 = RX2) (n : Nat) (hd : decode M.2.1 pc = .ok (.putfield 54, 3)) (hn : pc + 3 = n) (h : V M n ls st (sI w 7 x) Q) : V M pc ls (.int x :: .ref 2 :: st) w Q :=
  v_put (ty := .int) (ty0 := tyX2) n hd hn (shX2 ) (spX2_second ) rfl inX2 tyX2_ok nmX2 (by decide : 4 < 5) (by rw [hM]; exact fl_X2_54) rfl (by decide +kernel) (by simp) (fun _ => rfl) rfl rfl h
theorem vs_X4_50 {x : Int32} (hM : M.1 = RX4) (n : Nat) (hd : decode M.2.1 pc = .ok (.putfield 50, 3)) (hn : pc + 3 = n) (h : V M n ls st (sI w 16 x) Q) : V M pc ls (.int x :: .ref 1 :: st) w Q :=
  v_put (ty := .int) (ty0 := tyX4) n hd hn (shX4 ) (spX4_stamps ) rfl inX4 tyX4_ok nmX4 (by decide : 0 < 24) (by rw [hM]; exact fl_X4_50) rfl (by decide +kernel) (by simp) (fun _ => rfl) rfl rfl h
theorem vs_X4_60 {x : Int32} (hM : M.1 = RX4) (n : Nat) (hd : decode M.2.1 pc = .ok (.putfield 60, 3)) (hn : pc + 3 = n) (h : V M n ls st (sI w 20 x) Q) : V M pc ls (.int x :: .ref 1 :: st) w Q :=
  v_put (ty := .int) (ty0 := tyX4) n hd hn (shX4 ) (spX4_length ) rfl inX4 tyX4_ok nmX4 (by decide : 11 < 24) (by rw [hM]; exact fl_X4_60) rfl (by decide +kernel) (by simp) (fun _ => rfl) rfl rfl h
theorem vs_X4_63 {x : Int32} (hM : M.1 = RX4) (n : Nat) (hd : decode M.2.1 pc = .ok (.putfield 63, 3)) (hn : pc + 3 = n) (h : V M n ls st (sI w 22 x) Q) : V M pc ls (.int x :: .ref 1 :: st) w Q :=
  v_put (ty := .int) (ty0 := tyX4) n hd hn (shX4 ) (spX4_faultAt ) rfl inX4 tyX4_ok nmX4 (by decide : 13 < 24) (by rw [hM]; exact fl_X4_63) rfl (by decide +kernel) (by simp) (fun _ => rfl) rfl rfl h
theorem vs_X4_66 {x : Int32} (hM : M.1 = RX4) (n : Nat) (hd : decode M.2.1 pc = .ok (.putfield 66, 3)) (hn : pc + 3 = n) (h : V M n ls st (sI w 21 x) Q) : V M pc ls (.int x :: .ref 1 :: st) w Q :=
  v_put (ty := .int) (ty0 := tyX4) n hd hn (shX4 ) (spX4_at ) rfl inX4 tyX4_ok nmX4 (by decide : 12 < 24) (by rw [hM]; exact fl_X4_66) rfl (by decide +kernel) (by simp) (fun _ => rfl) rfl rfl h
theorem vs_X4_75 {x : Int32} (hM : M.1 = RX4) (n : Nat) (hd : decode M.2.1 pc = .ok (.putfield 75, 3)) (hn : pc + 3 = n) (h : V M n ls st (sI w 18 x) Q) : V M pc ls (.int x :: .ref 1 :: st) w Q :=
  v_put (ty := .int) (ty0 := tyX4) n hd hn (shX4 ) (spX4_readStamps ) rfl inX4 tyX4_ok nmX4 (by decide : 8 < 24) (by rw [hM]; exact fl_X4_75) rfl (by decide +kernel) (by simp) (fun _ => rfl) rfl rfl h
theorem vs_X4_82 {x : Int32} (hM : M.1 = RX4) (n : Nat) (hd : decode M.2.1 pc = .ok (.putfield 82, 3)) (hn : pc + 3 = n) (h : V M n ls st (sI w 19 x) Q) : V M pc ls (.int x :: .ref 1 :: st) w Q :=
  v_put (ty := .int) (ty0 := tyX4) n hd hn (shX4 ) (spX4_readLetters ) rfl inX4 tyX4_ok nmX4 (by decide : 9 < 24) (by rw [hM]; exact fl_X4_82) rfl (by decide +kernel) (by simp) (fun _ => rfl) rfl rfl h
theorem vs_X4_99 {x : Int32} (hM : M.1 = RX4) (n : Nat) (hd : decode M.2.1 pc = .ok (.putfield 99, 3)) (hn : pc + 3 = n) (h : V M n ls st (sI w 17 x) Q) : V M pc ls (.int x :: .ref 1 :: st) w Q :=
  v_put (ty := .int) (ty0 := tyX4) n hd hn (shX4 ) (spX4_letters ) rfl inX4 tyX4_ok nmX4 (by decide : 1 < 24) (by rw [hM]; exact fl_X4_99) rfl (by decide +kernel) (by simp) (fun _ => rfl) rfl rfl h
theorem vs_X4_102 {x : Int32} (hM : M.1 = RX4) (n : Nat) (hd : decode M.2.1 pc = .ok (.putfield 102, 3)) (hn : pc + 3 = n) (h : V M n ls st (sI w 23 x) Q) : V M pc ls (.int x :: .ref 1 :: st) w Q :=
  v_put (ty := .int) (ty0 := tyX4) n hd hn (shX4 ) (spX4_acts ) rfl inX4 tyX4_ok nmX4 (by decide : 14 < 24) (by rw [hM]; exact fl_X4_102) rfl (by decide +kernel) (by simp) (fun _ => rfl) rfl rfl h
theorem vs_X4_138 {x : Int32} (hM : M.1 = RX4) (n : Nat) (hd : decode M.2.1 pc = .ok (.putfield 138, 3)) (hn : pc + 3 = n) (h : V M n ls st (sI w 24 x) Q) : V M pc ls (.int x :: .ref 1 :: st) w Q :=
  v_put (ty := .int) (ty0 := tyX4) n hd hn (shX4 ) (spX4_next ) rfl inX4 tyX4_ok nmX4 (by decide : 15 < 24) (by rw [hM]; exact fl_X4_138) rfl (by decide +kernel) (by simp) (fun _ => rfl) rfl rfl h
theorem vs_X4_193 {x : Int32} (hM : M.1 = RX4) (n : Nat) (hd : decode M.2.1 pc = .ok (.putfield 193, 3)) (hn : pc + 3 = n) (h : V M n ls st (sI w 25 x) Q) : V M pc ls (.int x :: .ref 1 :: st) w Q :=
  v_put (ty := .int) (ty0 := tyX4) n hd hn (shX4 ) (spX4_seen ) rfl inX4 tyX4_ok nmX4 (by decide : 17 < 24) (by rw [hM]; exact fl_X4_193) rfl (by decide +kernel) (by simp) (fun _ => rfl) rfl rfl h
theorem vs_X4_214 {x : Int64} (hM : M.1 = RX4) (n : Nat) (hd : decode M.2.1 pc = .ok (.putfield 214, 3)) (hn : pc + 3 = n) (h : V M n ls st (sJ w 1 x) Q) : V M pc ls (.long x :: .ref 1 :: st) w Q :=
  v_put (ty := .long) (ty0 := tyX4) n hd hn (shX4 ) (spX4_seed ) rfl inX4 tyX4_ok nmX4 (by decide : 21 < 24) (by rw [hM]; exact fl_X4_214) rfl (by decide +kernel) (by simp) (fun _ => rfl) rfl rfl h
theorem vl_X3_text {i : Int32} (k n : Nat) (hd : decode M.2.1 pc = .ok (.iaload, 1)) (hn : pc + 1 = n) (hi : i = nI k) (hk : k < 48) (h : V M n ls (.int (w.2.2 25 k) :: st) w Q) : V M pc ls (.int i :: .ref 25 :: st) w Q := by
  have hc : k < 2 ^ 31 := (by have := hk; omega)
  subst hi
  exact v_iald n hd hn (saX3_text ) (vp_in_nI hk (by omega)) (by rw [nI_clamp hc]; exact h)
theorem vw_X3_text {i x : Int32} (k n : Nat) (hd : decode M.2.1 pc = .ok (.iastore, 1)) (hn : pc + 1 = n) (hi : i = nI k) (hk : k < 48) (h : V M n ls st (sA w 25 (upd (w.2.2 25) k x)) Q) : V M pc ls (.int x :: .int i :: .ref 25 :: st) w Q := by
  have hc : k < 2 ^ 31 := (by have := hk; omega)
  subst hi
  exact v_iast n hd hn (saX3_text ) (fun kI kZ => suX3_text  kI kZ) (vp_in_nI hk (by omega)) (by rw [nI_clamp hc]; exact h)
theorem vl_X3_slotUsed {i : Int32} (k n : Nat) (hd : decode M.2.1 pc = .ok (.baload, 1)) (hn : pc + 1 = n) (hi : i = nI k) (hk : k < 2) (h : V M n ls (.int (w.2.2 26 k) :: st) w Q) : V M pc ls (.int i :: .ref 26 :: st) w Q := by
  have hc : k < 2 ^ 31 := (by have := hk; omega)
  subst hi
  exact v_zald n hd hn (saX3_slotUsed ) (vp_in_nI hk (by omega)) (by rw [nI_clamp hc]; exact h)
theorem vw_X3_slotUsed {i x : Int32} (k n : Nat) (hd : decode M.2.1 pc = .ok (.bastore, 1)) (hn : pc + 1 = n) (hi : i = nI k) (hk : k < 2) (hz : x = 0 ∨ x = 1) (h : V M n ls st (sA w 26 (upd (w.2.2 26) k x)) Q) : V M pc ls (.int x :: .int i :: .ref 26 :: st) w Q := by
  have hc : k < 2 ^ 31 := (by have := hk; omega)
  subst hi
  exact v_zast n hd hn (saX3_slotUsed ) (fun kI kZ => suX3_slotUsed  kI kZ) (vp_in_nI hk (by omega)) (by rw [nI_clamp hc, zv hz]; exact h)
theorem vl_X3_seenStamp {i : Int32} (k n : Nat) (hd : decode M.2.1 pc = .ok (.iaload, 1)) (hn : pc + 1 = n) (hi : i = nI k) (hk : k < 6) (h : V M n ls (.int (w.2.2 27 k) :: st) w Q) : V M pc ls (.int i :: .ref 27 :: st) w Q := by
  have hc : k < 2 ^ 31 := (by have := hk; omega)
  subst hi
  exact v_iald n hd hn (saX3_seenStamp ) (vp_in_nI hk (by omega)) (by rw [nI_clamp hc]; exact h)
theorem vw_X3_seenStamp {i x : Int32} (k n : Nat) (hd : decode M.2.1 pc = .ok (.iastore, 1)) (hn : pc + 1 = n) (hi : i = nI k) (hk : k < 6) (h : V M n ls st (sA w 27 (upd (w.2.2 27) k x)) Q) : V M pc ls (.int x :: .int i :: .ref 27 :: st) w Q := by
  have hc : k < 2 ^ 31 := (by have := hk; omega)
  subst hi
  exact v_iast n hd hn (saX3_seenStamp ) (fun kI kZ => suX3_seenStamp  kI kZ) (vp_in_nI hk (by omega)) (by rw [nI_clamp hc]; exact h)
theorem vl_X3_seenWeeks {i : Int32} (k n : Nat) (hd : decode M.2.1 pc = .ok (.iaload, 1)) (hn : pc + 1 = n) (hi : i = nI k) (hk : k < 6) (h : V M n ls (.int (w.2.2 28 k) :: st) w Q) : V M pc ls (.int i :: .ref 28 :: st) w Q := by
  have hc : k < 2 ^ 31 := (by have := hk; omega)
  subst hi
  exact v_iald n hd hn (saX3_seenWeeks ) (vp_in_nI hk (by omega)) (by rw [nI_clamp hc]; exact h)
theorem vw_X3_seenWeeks {i x : Int32} (k n : Nat) (hd : decode M.2.1 pc = .ok (.iastore, 1)) (hn : pc + 1 = n) (hi : i = nI k) (hk : k < 6) (h : V M n ls st (sA w 28 (upd (w.2.2 28) k x)) Q) : V M pc ls (.int x :: .int i :: .ref 28 :: st) w Q := by
  have hc : k < 2 ^ 31 := (by have := hk; omega)
  subst hi
  exact v_iast n hd hn (saX3_seenWeeks ) (fun kI kZ => suX3_seenWeeks  kI kZ) (vp_in_nI hk (by omega)) (by rw [nI_clamp hc]; exact h)
theorem vl_X3_seenAlive {i : Int32} (k n : Nat) (hd : decode M.2.1 pc = .ok (.baload, 1)) (hn : pc + 1 = n) (hi : i = nI k) (hk : k < 6) (h : V M n ls (.int (w.2.2 29 k) :: st) w Q) : V M pc ls (.int i :: .ref 29 :: st) w Q := by
  have hc : k < 2 ^ 31 := (by have := hk; omega)
  subst hi
  exact v_zald n hd hn (saX3_seenAlive ) (vp_in_nI hk (by omega)) (by rw [nI_clamp hc]; exact h)
theorem vw_X3_seenAlive {i x : Int32} (k n : Nat) (hd : decode M.2.1 pc = .ok (.bastore, 1)) (hn : pc + 1 = n) (hi : i = nI k) (hk : k < 6) (hz : x = 0 ∨ x = 1) (h : V M n ls st (sA w 29 (upd (w.2.2 29) k x)) Q) : V M pc ls (.int x :: .int i :: .ref 29 :: st) w Q := by
  have hc : k < 2 ^ 31 := (by have := hk; omega)
  subst hi
  exact v_zast n hd hn (saX3_seenAlive ) (fun kI kZ => suX3_seenAlive  kI kZ) (vp_in_nI hk (by omega)) (by rw [nI_clamp hc, zv hz]; exact h)
theorem vl_X3_doings {i : Int32} (k n : Nat) (hd : decode M.2.1 pc = .ok (.iaload, 1)) (hn : pc + 1 = n) (hi : i = nI k) (hk : k < 4) (h : V M n ls (.int (w.2.2 30 k) :: st) w Q) : V M pc ls (.int i :: .ref 30 :: st) w Q := by
  have hc : k < 2 ^ 31 := (by have := hk; omega)
  subst hi
  exact v_iald n hd hn (saX3_doings ) (vp_in_nI hk (by omega)) (by rw [nI_clamp hc]; exact h)
theorem vw_X3_doings {i x : Int32} (k n : Nat) (hd : decode M.2.1 pc = .ok (.iastore, 1)) (hn : pc + 1 = n) (hi : i = nI k) (hk : k < 4) (h : V M n ls st (sA w 30 (upd (w.2.2 30) k x)) Q) : V M pc ls (.int x :: .int i :: .ref 30 :: st) w Q := by
  have hc : k < 2 ^ 31 := (by have := hk; omega)
  subst hi
  exact v_iast n hd hn (saX3_doings ) (fun kI kZ => suX3_doings  kI kZ) (vp_in_nI hk (by omega)) (by rw [nI_clamp hc]; exact h)
theorem vl_X1_age {b : Nat} (hb : b < 2) {i : Int32} (k n : Nat) (hd : decode M.2.1 pc = .ok (.iaload, 1)) (hn : pc + 1 = n) (hi : i = nI k) (hk : k < 5) (h : V M n ls (.int (px w b 0 k) :: st) w Q) : V M pc ls (.int i :: .ref (ar b 0) :: st) w Q := by
  have hc : k < 2 ^ 31 := (by have := hk; omega)
  subst hi
  exact v_iald n hd hn (saX1_age hb) (vp_in_nI hk (by omega)) (by rw [nI_clamp hc]; exact h)
theorem vw_X1_age {b : Nat} (hb : b < 2) {i x : Int32} (k n : Nat) (hd : decode M.2.1 pc = .ok (.iastore, 1)) (hn : pc + 1 = n) (hi : i = nI k) (hk : k < 5) (h : V M n ls st (sA w (ar b 0) (upd (px w b 0) k x)) Q) : V M pc ls (.int x :: .int i :: .ref (ar b 0) :: st) w Q := by
  have hc : k < 2 ^ 31 := (by have := hk; omega)
  subst hi
  exact v_iast n hd hn (saX1_age hb) (fun kI kZ => suX1_age hb kI kZ) (vp_in_nI hk (by omega)) (by rw [nI_clamp hc]; exact h)
theorem vl_X1_health {b : Nat} (hb : b < 2) {i : Int32} (k n : Nat) (hd : decode M.2.1 pc = .ok (.iaload, 1)) (hn : pc + 1 = n) (hi : i = nI k) (hk : k < 5) (h : V M n ls (.int (px w b 1 k) :: st) w Q) : V M pc ls (.int i :: .ref (ar b 1) :: st) w Q := by
  have hc : k < 2 ^ 31 := (by have := hk; omega)
  subst hi
  exact v_iald n hd hn (saX1_health hb) (vp_in_nI hk (by omega)) (by rw [nI_clamp hc]; exact h)
theorem vw_X1_health {b : Nat} (hb : b < 2) {i x : Int32} (k n : Nat) (hd : decode M.2.1 pc = .ok (.iastore, 1)) (hn : pc + 1 = n) (hi : i = nI k) (hk : k < 5) (h : V M n ls st (sA w (ar b 1) (upd (px w b 1) k x)) Q) : V M pc ls (.int x :: .int i :: .ref (ar b 1) :: st) w Q := by
  have hc : k < 2 ^ 31 := (by have := hk; omega)
  subst hi
  exact v_iast n hd hn (saX1_health hb) (fun kI kZ => suX1_health hb kI kZ) (vp_in_nI hk (by omega)) (by rw [nI_clamp hc]; exact h)
theorem vl_X1_kind {b : Nat} (hb : b < 2) {i : Int32} (k n : Nat) (hd : decode M.2.1 pc = .ok (.iaload, 1)) (hn : pc + 1 = n) (hi : i = nI k) (hk : k < 5) (h : V M n ls (.int (px w b 2 k) :: st) w Q) : V M pc ls (.int i :: .ref (ar b 2) :: st) w Q := by
  have hc : k < 2 ^ 31 := (by have := hk; omega)
  subst hi
  exact v_iald n hd hn (saX1_kind hb) (vp_in_nI hk (by omega)) (by rw [nI_clamp hc]; exact h)
theorem vw_X1_kind {b : Nat} (hb : b < 2) {i x : Int32} (k n : Nat) (hd : decode M.2.1 pc = .ok (.iastore, 1)) (hn : pc + 1 = n) (hi : i = nI k) (hk : k < 5) (h : V M n ls st (sA w (ar b 2) (upd (px w b 2) k x)) Q) : V M pc ls (.int x :: .int i :: .ref (ar b 2) :: st) w Q := by
  have hc : k < 2 ^ 31 := (by have := hk; omega)
  subst hi
  exact v_iast n hd hn (saX1_kind hb) (fun kI kZ => suX1_kind hb kI kZ) (vp_in_nI hk (by omega)) (by rw [nI_clamp hc]; exact h)
theorem vl_X1_joined {b : Nat} (hb : b < 2) {i : Int32} (k n : Nat) (hd : decode M.2.1 pc = .ok (.iaload, 1)) (hn : pc + 1 = n) (hi : i = nI k) (hk : k < 5) (h : V M n ls (.int (px w b 3 k) :: st) w Q) : V M pc ls (.int i :: .ref (ar b 3) :: st) w Q := by
  have hc : k < 2 ^ 31 := (by have := hk; omega)
  subst hi
  exact v_iald n hd hn (saX1_joined hb) (vp_in_nI hk (by omega)) (by rw [nI_clamp hc]; exact h)
theorem vw_X1_joined {b : Nat} (hb : b < 2) {i x : Int32} (k n : Nat) (hd : decode M.2.1 pc = .ok (.iastore, 1)) (hn : pc + 1 = n) (hi : i = nI k) (hk : k < 5) (h : V M n ls st (sA w (ar b 3) (upd (px w b 3) k x)) Q) : V M pc ls (.int x :: .int i :: .ref (ar b 3) :: st) w Q := by
  have hc : k < 2 ^ 31 := (by have := hk; omega)
  subst hi
  exact v_iast n hd hn (saX1_joined hb) (fun kI kZ => suX1_joined hb kI kZ) (vp_in_nI hk (by omega)) (by rw [nI_clamp hc]; exact h)
theorem vl_X1_on {b : Nat} (hb : b < 2) {i : Int32} (k n : Nat) (hd : decode M.2.1 pc = .ok (.iaload, 1)) (hn : pc + 1 = n) (hi : i = nI k) (hk : k < 5) (h : V M n ls (.int (px w b 4 k) :: st) w Q) : V M pc ls (.int i :: .ref (ar b 4) :: st) w Q := by
  have hc : k < 2 ^ 31 := (by have := hk; omega)
  subst hi
  exact v_iald n hd hn (saX1_on hb) (vp_in_nI hk (by omega)) (by rw [nI_clamp hc]; exact h)
theorem vw_X1_on {b : Nat} (hb : b < 2) {i x : Int32} (k n : Nat) (hd : decode M.2.1 pc = .ok (.iastore, 1)) (hn : pc + 1 = n) (hi : i = nI k) (hk : k < 5) (h : V M n ls st (sA w (ar b 4) (upd (px w b 4) k x)) Q) : V M pc ls (.int x :: .int i :: .ref (ar b 4) :: st) w Q := by
  have hc : k < 2 ^ 31 := (by have := hk; omega)
  subst hi
  exact v_iast n hd hn (saX1_on hb) (fun kI kZ => suX1_on hb kI kZ) (vp_in_nI hk (by omega)) (by rw [nI_clamp hc]; exact h)
theorem vl_X1_left {b : Nat} (hb : b < 2) {i : Int32} (k n : Nat) (hd : decode M.2.1 pc = .ok (.iaload, 1)) (hn : pc + 1 = n) (hi : i = nI k) (hk : k < 4) (h : V M n ls (.int (px w b 5 k) :: st) w Q) : V M pc ls (.int i :: .ref (ar b 5) :: st) w Q := by
  have hc : k < 2 ^ 31 := (by have := hk; omega)
  subst hi
  exact v_iald n hd hn (saX1_left hb) (vp_in_nI hk (by omega)) (by rw [nI_clamp hc]; exact h)
theorem vw_X1_left {b : Nat} (hb : b < 2) {i x : Int32} (k n : Nat) (hd : decode M.2.1 pc = .ok (.iastore, 1)) (hn : pc + 1 = n) (hi : i = nI k) (hk : k < 4) (h : V M n ls st (sA w (ar b 5) (upd (px w b 5) k x)) Q) : V M pc ls (.int x :: .int i :: .ref (ar b 5) :: st) w Q := by
  have hc : k < 2 ^ 31 := (by have := hk; omega)
  subst hi
  exact v_iast n hd hn (saX1_left hb) (fun kI kZ => suX1_left hb kI kZ) (vp_in_nI hk (by omega)) (by rw [nI_clamp hc]; exact h)
theorem vl_X1_cost {b : Nat} (hb : b < 2) {i : Int32} (k n : Nat) (hd : decode M.2.1 pc = .ok (.iaload, 1)) (hn : pc + 1 = n) (hi : i = nI k) (hk : k < 4) (h : V M n ls (.int (px w b 6 k) :: st) w Q) : V M pc ls (.int i :: .ref (ar b 6) :: st) w Q := by
  have hc : k < 2 ^ 31 := (by have := hk; omega)
  subst hi
  exact v_iald n hd hn (saX1_cost hb) (vp_in_nI hk (by omega)) (by rw [nI_clamp hc]; exact h)
theorem vw_X1_cost {b : Nat} (hb : b < 2) {i x : Int32} (k n : Nat) (hd : decode M.2.1 pc = .ok (.iastore, 1)) (hn : pc + 1 = n) (hi : i = nI k) (hk : k < 4) (h : V M n ls st (sA w (ar b 6) (upd (px w b 6) k x)) Q) : V M pc ls (.int x :: .int i :: .ref (ar b 6) :: st) w Q := by
  have hc : k < 2 ^ 31 := (by have := hk; omega)
  subst hi
  exact v_iast n hd hn (saX1_cost hb) (fun kI kZ => suX1_cost hb kI kZ) (vp_in_nI hk (by omega)) (by rw [nI_clamp hc]; exact h)
theorem vl_X1_fate {b : Nat} (hb : b < 2) {i : Int32} (k n : Nat) (hd : decode M.2.1 pc = .ok (.iaload, 1)) (hn : pc + 1 = n) (hi : i = nI k) (hk : k < 4) (h : V M n ls (.int (px w b 7 k) :: st) w Q) : V M pc ls (.int i :: .ref (ar b 7) :: st) w Q := by
  have hc : k < 2 ^ 31 := (by have := hk; omega)
  subst hi
  exact v_iald n hd hn (saX1_fate hb) (vp_in_nI hk (by omega)) (by rw [nI_clamp hc]; exact h)
theorem vw_X1_fate {b : Nat} (hb : b < 2) {i x : Int32} (k n : Nat) (hd : decode M.2.1 pc = .ok (.iastore, 1)) (hn : pc + 1 = n) (hi : i = nI k) (hk : k < 4) (h : V M n ls st (sA w (ar b 7) (upd (px w b 7) k x)) Q) : V M pc ls (.int x :: .int i :: .ref (ar b 7) :: st) w Q := by
  have hc : k < 2 ^ 31 := (by have := hk; omega)
  subst hi
  exact v_iast n hd hn (saX1_fate hb) (fun kI kZ => suX1_fate hb kI kZ) (vp_in_nI hk (by omega)) (by rw [nI_clamp hc]; exact h)
theorem vl_X4_kind {i : Int32} (k n : Nat) (hd : decode M.2.1 pc = .ok (.iaload, 1)) (hn : pc + 1 = n) (hi : i = nI k) (hk : k < 5) (h : V M n ls (.int (w.2.2 31 k) :: st) w Q) : V M pc ls (.int i :: .ref 31 :: st) w Q := by
  have hc : k < 2 ^ 31 := (by have := hk; omega)
  subst hi
  exact v_iald n hd hn (saX4_kind ) (vp_in_nI hk (by omega)) (by rw [nI_clamp hc]; exact h)
theorem vw_X4_kind {i x : Int32} (k n : Nat) (hd : decode M.2.1 pc = .ok (.iastore, 1)) (hn : pc + 1 = n) (hi : i = nI k) (hk : k < 5) (h : V M n ls st (sA w 31 (upd (w.2.2 31) k x)) Q) : V M pc ls (.int x :: .int i :: .ref 31 :: st) w Q := by
  have hc : k < 2 ^ 31 := (by have := hk; omega)
  subst hi
  exact v_iast n hd hn (saX4_kind ) (fun kI kZ => suX4_kind  kI kZ) (vp_in_nI hk (by omega)) (by rw [nI_clamp hc]; exact h)
theorem vl_X4_cost {i : Int32} (k n : Nat) (hd : decode M.2.1 pc = .ok (.iaload, 1)) (hn : pc + 1 = n) (hi : i = nI k) (hk : k < 4) (h : V M n ls (.int (w.2.2 32 k) :: st) w Q) : V M pc ls (.int i :: .ref 32 :: st) w Q := by
  have hc : k < 2 ^ 31 := (by have := hk; omega)
  subst hi
  exact v_iald n hd hn (saX4_cost ) (vp_in_nI hk (by omega)) (by rw [nI_clamp hc]; exact h)
theorem vw_X4_cost {i x : Int32} (k n : Nat) (hd : decode M.2.1 pc = .ok (.iastore, 1)) (hn : pc + 1 = n) (hi : i = nI k) (hk : k < 4) (h : V M n ls st (sA w 32 (upd (w.2.2 32) k x)) Q) : V M pc ls (.int x :: .int i :: .ref 32 :: st) w Q := by
  have hc : k < 2 ^ 31 := (by have := hk; omega)
  subst hi
  exact v_iast n hd hn (saX4_cost ) (fun kI kZ => suX4_cost  kI kZ) (vp_in_nI hk (by omega)) (by rw [nI_clamp hc]; exact h)
theorem vl_X4_now {i : Int32} (k n : Nat) (hd : decode M.2.1 pc = .ok (.iaload, 1)) (hn : pc + 1 = n) (hi : i = nI k) (hk : k < 60) (h : V M n ls (.int (w.2.2 33 k) :: st) w Q) : V M pc ls (.int i :: .ref 33 :: st) w Q := by
  have hc : k < 2 ^ 31 := (by have := hk; omega)
  subst hi
  exact v_iald n hd hn (saX4_now ) (vp_in_nI hk (by omega)) (by rw [nI_clamp hc]; exact h)
theorem vw_X4_now {i x : Int32} (k n : Nat) (hd : decode M.2.1 pc = .ok (.iastore, 1)) (hn : pc + 1 = n) (hi : i = nI k) (hk : k < 60) (h : V M n ls st (sA w 33 (upd (w.2.2 33) k x)) Q) : V M pc ls (.int x :: .int i :: .ref 33 :: st) w Q := by
  have hc : k < 2 ^ 31 := (by have := hk; omega)
  subst hi
  exact v_iast n hd hn (saX4_now ) (fun kI kZ => suX4_now  kI kZ) (vp_in_nI hk (by omega)) (by rw [nI_clamp hc]; exact h)
theorem vl_X4_readStamp {i : Int32} (k n : Nat) (hd : decode M.2.1 pc = .ok (.iaload, 1)) (hn : pc + 1 = n) (hi : i = nI k) (hk : k < 15) (h : V M n ls (.int (w.2.2 34 k) :: st) w Q) : V M pc ls (.int i :: .ref 34 :: st) w Q := by
  have hc : k < 2 ^ 31 := (by have := hk; omega)
  subst hi
  exact v_iald n hd hn (saX4_readStamp ) (vp_in_nI hk (by omega)) (by rw [nI_clamp hc]; exact h)
theorem vw_X4_readStamp {i x : Int32} (k n : Nat) (hd : decode M.2.1 pc = .ok (.iastore, 1)) (hn : pc + 1 = n) (hi : i = nI k) (hk : k < 15) (h : V M n ls st (sA w 34 (upd (w.2.2 34) k x)) Q) : V M pc ls (.int x :: .int i :: .ref 34 :: st) w Q := by
  have hc : k < 2 ^ 31 := (by have := hk; omega)
  subst hi
  exact v_iast n hd hn (saX4_readStamp ) (fun kI kZ => suX4_readStamp  kI kZ) (vp_in_nI hk (by omega)) (by rw [nI_clamp hc]; exact h)
theorem vl_X4_readJoined {i : Int32} (k n : Nat) (hd : decode M.2.1 pc = .ok (.iaload, 1)) (hn : pc + 1 = n) (hi : i = nI k) (hk : k < 5) (h : V M n ls (.int (w.2.2 35 k) :: st) w Q) : V M pc ls (.int i :: .ref 35 :: st) w Q := by
  have hc : k < 2 ^ 31 := (by have := hk; omega)
  subst hi
  exact v_iald n hd hn (saX4_readJoined ) (vp_in_nI hk (by omega)) (by rw [nI_clamp hc]; exact h)
theorem vw_X4_readJoined {i x : Int32} (k n : Nat) (hd : decode M.2.1 pc = .ok (.iastore, 1)) (hn : pc + 1 = n) (hi : i = nI k) (hk : k < 5) (h : V M n ls st (sA w 35 (upd (w.2.2 35) k x)) Q) : V M pc ls (.int x :: .int i :: .ref 35 :: st) w Q := by
  have hc : k < 2 ^ 31 := (by have := hk; omega)
  subst hi
  exact v_iast n hd hn (saX4_readJoined ) (fun kI kZ => suX4_readJoined  kI kZ) (vp_in_nI hk (by omega)) (by rw [nI_clamp hc]; exact h)
theorem vl_X4_readLetter {i : Int32} (k n : Nat) (hd : decode M.2.1 pc = .ok (.iaload, 1)) (hn : pc + 1 = n) (hi : i = nI k) (hk : k < 8) (h : V M n ls (.int (w.2.2 36 k) :: st) w Q) : V M pc ls (.int i :: .ref 36 :: st) w Q := by
  have hc : k < 2 ^ 31 := (by have := hk; omega)
  subst hi
  exact v_iald n hd hn (saX4_readLetter ) (vp_in_nI hk (by omega)) (by rw [nI_clamp hc]; exact h)
theorem vw_X4_readLetter {i x : Int32} (k n : Nat) (hd : decode M.2.1 pc = .ok (.iastore, 1)) (hn : pc + 1 = n) (hi : i = nI k) (hk : k < 8) (h : V M n ls st (sA w 36 (upd (w.2.2 36) k x)) Q) : V M pc ls (.int x :: .int i :: .ref 36 :: st) w Q := by
  have hc : k < 2 ^ 31 := (by have := hk; omega)
  subst hi
  exact v_iast n hd hn (saX4_readLetter ) (fun kI kZ => suX4_readLetter  kI kZ) (vp_in_nI hk (by omega)) (by rw [nI_clamp hc]; exact h)
theorem vl_X4_text {i : Int32} (k n : Nat) (hd : decode M.2.1 pc = .ok (.iaload, 1)) (hn : pc + 1 = n) (hi : i = nI k) (hk : k < 48) (h : V M n ls (.int (w.2.2 37 k) :: st) w Q) : V M pc ls (.int i :: .ref 37 :: st) w Q := by
  have hc : k < 2 ^ 31 := (by have := hk; omega)
  subst hi
  exact v_iald n hd hn (saX4_text ) (vp_in_nI hk (by omega)) (by rw [nI_clamp hc]; exact h)
theorem vw_X4_text {i x : Int32} (k n : Nat) (hd : decode M.2.1 pc = .ok (.iastore, 1)) (hn : pc + 1 = n) (hi : i = nI k) (hk : k < 48) (h : V M n ls st (sA w 37 (upd (w.2.2 37) k x)) Q) : V M pc ls (.int x :: .int i :: .ref 37 :: st) w Q := by
  have hc : k < 2 ^ 31 := (by have := hk; omega)
  subst hi
  exact v_iast n hd hn (saX4_text ) (fun kI kZ => suX4_text  kI kZ) (vp_in_nI hk (by omega)) (by rw [nI_clamp hc]; exact h)
theorem vl_X4_row {i : Int32} (k n : Nat) (hd : decode M.2.1 pc = .ok (.iaload, 1)) (hn : pc + 1 = n) (hi : i = nI k) (hk : k < 420) (h : V M n ls (.int (w.2.2 38 k) :: st) w Q) : V M pc ls (.int i :: .ref 38 :: st) w Q := by
  have hc : k < 2 ^ 31 := (by have := hk; omega)
  subst hi
  exact v_iald n hd hn (saX4_row ) (vp_in_nI hk (by omega)) (by rw [nI_clamp hc]; exact h)
theorem vw_X4_row {i x : Int32} (k n : Nat) (hd : decode M.2.1 pc = .ok (.iastore, 1)) (hn : pc + 1 = n) (hi : i = nI k) (hk : k < 420) (h : V M n ls st (sA w 38 (upd (w.2.2 38) k x)) Q) : V M pc ls (.int x :: .int i :: .ref 38 :: st) w Q := by
  have hc : k < 2 ^ 31 := (by have := hk; omega)
  subst hi
  exact v_iast n hd hn (saX4_row ) (fun kI kZ => suX4_row  kI kZ) (vp_in_nI hk (by omega)) (by rw [nI_clamp hc]; exact h)
theorem vl_X4_seenOf {i : Int32} (k n : Nat) (hd : decode M.2.1 pc = .ok (.iaload, 1)) (hn : pc + 1 = n) (hi : i = nI k) (hk : k < 6) (h : V M n ls (.int (w.2.2 39 k) :: st) w Q) : V M pc ls (.int i :: .ref 39 :: st) w Q := by
  have hc : k < 2 ^ 31 := (by have := hk; omega)
  subst hi
  exact v_iald n hd hn (saX4_seenOf ) (vp_in_nI hk (by omega)) (by rw [nI_clamp hc]; exact h)
theorem vw_X4_seenOf {i x : Int32} (k n : Nat) (hd : decode M.2.1 pc = .ok (.iastore, 1)) (hn : pc + 1 = n) (hi : i = nI k) (hk : k < 6) (h : V M n ls st (sA w 39 (upd (w.2.2 39) k x)) Q) : V M pc ls (.int x :: .int i :: .ref 39 :: st) w Q := by
  have hc : k < 2 ^ 31 := (by have := hk; omega)
  subst hi
  exact v_iast n hd hn (saX4_seenOf ) (fun kI kZ => suX4_seenOf  kI kZ) (vp_in_nI hk (by omega)) (by rw [nI_clamp hc]; exact h)
theorem vl_X4_seenAfter {i : Int32} (k n : Nat) (hd : decode M.2.1 pc = .ok (.iaload, 1)) (hn : pc + 1 = n) (hi : i = nI k) (hk : k < 6) (h : V M n ls (.int (w.2.2 40 k) :: st) w Q) : V M pc ls (.int i :: .ref 40 :: st) w Q := by
  have hc : k < 2 ^ 31 := (by have := hk; omega)
  subst hi
  exact v_iald n hd hn (saX4_seenAfter ) (vp_in_nI hk (by omega)) (by rw [nI_clamp hc]; exact h)
theorem vw_X4_seenAfter {i x : Int32} (k n : Nat) (hd : decode M.2.1 pc = .ok (.iastore, 1)) (hn : pc + 1 = n) (hi : i = nI k) (hk : k < 6) (h : V M n ls st (sA w 40 (upd (w.2.2 40) k x)) Q) : V M pc ls (.int x :: .int i :: .ref 40 :: st) w Q := by
  have hc : k < 2 ^ 31 := (by have := hk; omega)
  subst hi
  exact v_iast n hd hn (saX4_seenAfter ) (fun kI kZ => suX4_seenAfter  kI kZ) (vp_in_nI hk (by omega)) (by rw [nI_clamp hc]; exact h)
theorem vl_X4_seenAlive {i : Int32} (k n : Nat) (hd : decode M.2.1 pc = .ok (.iaload, 1)) (hn : pc + 1 = n) (hi : i = nI k) (hk : k < 6) (h : V M n ls (.int (w.2.2 41 k) :: st) w Q) : V M pc ls (.int i :: .ref 41 :: st) w Q := by
  have hc : k < 2 ^ 31 := (by have := hk; omega)
  subst hi
  exact v_iald n hd hn (saX4_seenAlive ) (vp_in_nI hk (by omega)) (by rw [nI_clamp hc]; exact h)
theorem vw_X4_seenAlive {i x : Int32} (k n : Nat) (hd : decode M.2.1 pc = .ok (.iastore, 1)) (hn : pc + 1 = n) (hi : i = nI k) (hk : k < 6) (h : V M n ls st (sA w 41 (upd (w.2.2 41) k x)) Q) : V M pc ls (.int x :: .int i :: .ref 41 :: st) w Q := by
  have hc : k < 2 ^ 31 := (by have := hk; omega)
  subst hi
  exact v_iast n hd hn (saX4_seenAlive ) (fun kI kZ => suX4_seenAlive  kI kZ) (vp_in_nI hk (by omega)) (by rw [nI_clamp hc]; exact h)
theorem vl_X4_isKept {i : Int32} (k n : Nat) (hd : decode M.2.1 pc = .ok (.baload, 1)) (hn : pc + 1 = n) (hi : i = nI k) (hk : k < 2) (h : V M n ls (.int (w.2.2 42 k) :: st) w Q) : V M pc ls (.int i :: .ref 42 :: st) w Q := by
  have hc : k < 2 ^ 31 := (by have := hk; omega)
  subst hi
  exact v_zald n hd hn (saX4_isKept ) (vp_in_nI hk (by omega)) (by rw [nI_clamp hc]; exact h)
theorem vw_X4_isKept {i x : Int32} (k n : Nat) (hd : decode M.2.1 pc = .ok (.bastore, 1)) (hn : pc + 1 = n) (hi : i = nI k) (hk : k < 2) (hz : x = 0 ∨ x = 1) (h : V M n ls st (sA w 42 (upd (w.2.2 42) k x)) Q) : V M pc ls (.int x :: .int i :: .ref 42 :: st) w Q := by
  have hc : k < 2 ^ 31 := (by have := hk; omega)
  subst hi
  exact v_zast n hd hn (saX4_isKept ) (fun kI kZ => suX4_isKept  kI kZ) (vp_in_nI hk (by omega)) (by rw [nI_clamp hc, zv hz]; exact h)
theorem vl_X4_kept {i : Int32} (k n : Nat) (hd : decode M.2.1 pc = .ok (.iaload, 1)) (hn : pc + 1 = n) (hi : i = nI k) (hk : k < 60) (h : V M n ls (.int (w.2.2 43 k) :: st) w Q) : V M pc ls (.int i :: .ref 43 :: st) w Q := by
  have hc : k < 2 ^ 31 := (by have := hk; omega)
  subst hi
  exact v_iald n hd hn (saX4_kept ) (vp_in_nI hk (by omega)) (by rw [nI_clamp hc]; exact h)
theorem vw_X4_kept {i x : Int32} (k n : Nat) (hd : decode M.2.1 pc = .ok (.iastore, 1)) (hn : pc + 1 = n) (hi : i = nI k) (hk : k < 60) (h : V M n ls st (sA w 43 (upd (w.2.2 43) k x)) Q) : V M pc ls (.int x :: .int i :: .ref 43 :: st) w Q := by
  have hc : k < 2 ^ 31 := (by have := hk; omega)
  subst hi
  exact v_iast n hd hn (saX4_kept ) (fun kI kZ => suX4_kept  kI kZ) (vp_in_nI hk (by omega)) (by rw [nI_clamp hc]; exact h)
theorem vl_X0_cells {g : Nat} (hg : g < 2) {i : Int32} (k n : Nat) (hd : decode M.2.1 pc = .ok (.iaload, 1)) (hn : pc + 1 = n) (hi : i = nI k) (hk : k < (mlen g)) (h : V M n ls (.int (w.2.2 (mc g) k) :: st) w Q) : V M pc ls (.int i :: .ref (mc g) :: st) w Q := by
  have hc : k < 2 ^ 31 := (by have := hk; unfold mlen at this; split at this <;> omega)
  subst hi
  exact v_iald n hd hn (saX0_cells hg) (vp_in_nI hk (by unfold mlen; split <;> omega)) (by rw [nI_clamp hc]; exact h)
theorem vw_X0_cells {g : Nat} (hg : g < 2) {i x : Int32} (k n : Nat) (hd : decode M.2.1 pc = .ok (.iastore, 1)) (hn : pc + 1 = n) (hi : i = nI k) (hk : k < (mlen g)) (h : V M n ls st (sA w (mc g) (upd (w.2.2 (mc g)) k x)) Q) : V M pc ls (.int x :: .int i :: .ref (mc g) :: st) w Q := by
  have hc : k < 2 ^ 31 := (by have := hk; unfold mlen at this; split at this <;> omega)
  subst hi
  exact v_iast n hd hn (saX0_cells hg) (fun kI kZ => suX0_cells hg kI kZ) (vp_in_nI hk (by unfold mlen; split <;> omega)) (by rw [nI_clamp hc]; exact h)
end VF

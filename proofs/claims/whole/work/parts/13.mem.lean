theorem vrel {M : MD} {pc : Nat} {ls : LsT} {st : List Value} {Q : Option Value → Wd → Prop} {r k : Nat} {f : Nat → Int32} {x : Int32} {w : Wd} (h : ∀ u, (∀ i, u.2.2 r i = if i = k then x else f i) → FrA r w u → V M pc ls st u Q) : V M pc ls st (sA w r (upd f k x)) Q := h _ (fun i => by simp [sA, upd]) FrA.oA
section VY
variable {M : MD} {pc : Nat} {ls : LsT} {st : List Value} {w : Wd} {Q : Option Value → Wd → Prop}
theorem v_copyR {r0 r1 n0 n1 ix : Nat} (sp dp k : Nat) (n : Nat) (hd : decode M.2.1 pc = .ok (.invokestatic ix, 3)) (hn : pc + 3 = n) (hl : Cond.methodLink M.1 ix arraycopyName ∈ TG) (hs0 : ∀ kI kZ, (cE kI kZ w)[r0]? = some (iE kI w r0 n0)) (hs1 : ∀ kI kZ, (cE kI kZ w)[r1]? = some (iE kI w r1 n1)) (hu : ∀ f kI kZ, (cE kI kZ w).set r1 (.inl (kI, n1, .inl f)) = cE kI kZ (sA w r1 f)) (h4 : sp + k ≤ n0) (h5 : dp + k ≤ n1) (hb0 : n0 < 1000) (hb1 : n1 < 1000) (hfr : 1 ≤ M.2.2.2.2.1) (hlo : 60 ≤ M.2.2.2.2.2) (hcat : (st.map fun v => v.category).sum ≤ 8) (h : ∀ u, (∀ i, u.2.2 r1 i = if dp ≤ i ∧ i < dp + k then w.2.2 r0 (sp + (i - dp)) else w.2.2 r1 i) → FrA r1 w u → V M n ls st u Q) : V M pc ls (.int (nI k) :: .int (nI dp) :: .ref r1 :: .int (nI sp) :: .ref r0 :: st) w Q :=
  v_copy sp dp k n hd hn hl hs0 hs1 (hu _) h4 h5 hb0 hb1 hfr hlo hcat (h _ (fun i => by simp [sA, va_cpy]) FrA.oA)
end VY
theorem sA_sA {w : Wd} {r : Nat} {f g : Nat → Int32} : sA (sA w r f) r g = sA w r g := by
  unfold sA
  simp only [Prod.mk.injEq, true_and]
  funext a
  by_cases h : a = r <;> simp [h]
theorem sA_self {w : Wd} {r : Nat} {f : Nat → Int32} (h : w.2.2 r = f) : sA w r f = w := by
  obtain ⟨a, c, d⟩ := w
  unfold sA
  simp only [Prod.mk.injEq, true_and]
  funext q
  by_cases hq : q = r
  · subst hq; rw [if_pos rfl]; exact h.symm
  · rw [if_neg hq]
def fillF (f : Nat → Int32) (x : Int32) (i : Nat) : Nat → Int32 := fun k => if k < i then x else f k
theorem fillF_s {f : Nat → Int32} {x : Int32} {i : Nat} : upd (fillF f x i) i x = fillF f x (i + 1) := by
  funext k
  simp only [upd, fillF]
  by_cases h : k = i
  · subst h; simp
  · have : (k < i + 1) ↔ k < i := by omega
    simp [h, this]
set_option maxHeartbeats 4000000 in
set_option maxRecDepth 100000 in
theorem c_fill {w : Wd} {r a : Nat} {x : Int32} (ha : a < 1000) (hs : ∀ w kI kZ, (cE kI kZ w)[r]? = some (iE kI w r a)) (hu : ∀ w f kI kZ, (cE kI kZ w).set r (.inl (kI, a, .inl f)) = cE kI kZ (sA w r f)) {Q : Option Value → Wd → Prop} (hQ : ∀ u, (∀ i, i < a → u.2.2 r i = x) → FrA r w u → Q none u) : V mJ7_fill_53178 0 [some (.ref r), some (.int x), none, none] [] w Q := by
  have key : ∀ i, i ≤ a → V mJ7_fill_53178 5 [some (.ref r), some (.int x), some (.int (nI i)), some (.int (nI a))] [] (sA w r (fillF (w.2.2 r) x i)) Q := by
    refine up (P := fun i => V mJ7_fill_53178 5 [some (.ref r), some (.int x), some (.int (nI i)), some (.int (nI a))] [] (sA w r (fillF (w.2.2 r) x i)) Q) (fun i hi ih => ?_)
    refine li_4_2 6 dJ7_fill_53178_5 rfl ?_
    refine li_4_3 7 dJ7_fill_53178_6 rfl ?_
    refine v_icmp_ge 20 10 dJ7_fill_53178_7 rfl rfl (fun h7 => ?_) (fun h7 => ?_)
    · obtain rfl := ge_eq h7 hi (by omega)
      refine v_vret dJ7_fill_53178_20 rfl ?_
      exact hQ _ (fun k hk => by simp [sA, fillF, hk]) FrA.oA
    · have hlt := ge_lt h7 (by omega) (by omega)
      refine la_4_0 11 dJ7_fill_53178_10 rfl ?_
      refine li_4_2 12 dJ7_fill_53178_11 rfl ?_
      refine li_4_1 13 dJ7_fill_53178_12 rfl ?_
      refine v_iast (u := sA w r (fillF (w.2.2 r) x (i + 1))) 14 dJ7_fill_53178_13 rfl (fun kI kZ => hs _ kI kZ) (fun kI kZ => ?_) (vp_in_nI hlt (by omega)) ?_
      · rw [nI_clamp (by omega), hu, sA_sA]
        have e : (sA w r (fillF (w.2.2 r) x i)).2.2 r = fillF (w.2.2 r) x i := by simp [sA]
        rw [e, fillF_s]
      · refine icn_4_2 rfl 17 dJ7_fill_53178_14 rfl rfl ?_
        refine v_goto 5 dJ7_fill_53178_17 rfl ?_
        exact ih hlt
  refine v_iconst (v := 0) 1 dJ7_fill_53178_0 rfl ki_0 ?_
  refine si_4_2 rfl 2 dJ7_fill_53178_1 rfl rfl ?_
  refine la_4_0 3 dJ7_fill_53178_2 rfl ?_
  refine v_alen (v := nI a) 4 dJ7_fill_53178_3 rfl (fun kI kZ => hs _ kI kZ) rfl ?_
  refine si_4_3 rfl 5 dJ7_fill_53178_4 rfl rfl ?_
  have e := key 0 (Nat.zero_le _)
  rw [sA_self (by funext k; simp [fillF])] at e
  exact e
theorem mlen_cases (g : Nat) : mlen g = 420 ∨ mlen g = 60 := by unfold mlen; split <;> simp
theorem mlen_lt (g : Nat) : mlen g < 1000 := by rcases mlen_cases g with h | h <;> omega
set_option maxHeartbeats 4000000 in
set_option maxRecDepth 100000 in
theorem c_X0_holds {g : Nat} (hg : g < 2) {w : Wd} {k : Nat} (hk : 30 * k + 30 ≤ mlen g) {Q : Option Value → Wd → Prop} (hQ : Q (some (.int 1)) w) : V mX0_holds 0 [some (.ref (mr g)), some (.int (nI k))] [] w Q := by
  have hm := mlen_lt g
  refine li_2_1 1 dX0_holds_0 rfl ?_
  refine v_if_lt 20 4 dX0_holds_1 rfl rfl (fun h1 => ?_) (fun h1 => ?_)
  · exact absurd h1 (nI_pos (by omega))
  · refine li_2_1 5 dX0_holds_4 rfl ?_
    refine la_2_0 6 dX0_holds_5 rfl ?_
    refine vg_X0_17 hg rfl 9 dX0_holds_6 rfl ?_
    refine v_alen (v := nI (mlen g)) 10 dX0_holds_9 rfl (saX0_cells hg) rfl ?_
    refine v_bipush (v := 30) 12 dX0_holds_10 rfl kb_30 ?_
    refine v_idiv 13 dX0_holds_12 rfl (by decide) ?_
    rw [show (30 : Int32) = nI 30 from rfl, pk_div (by omega) (by omega) (by omega)]
    refine v_icmp_ge 20 16 dX0_holds_13 rfl rfl (fun h13 => ?_) (fun h13 => ?_)
    · exact absurd h13 (nI_ge (by omega) (by omega))
    · refine v_iconst (v := 1) 17 dX0_holds_16 rfl ki_1 ?_
      refine v_goto 21 dX0_holds_17 rfl ?_
      refine v_zret dX0_holds_21 rfl (Or.inr rfl) ?_
      exact hQ
set_option maxHeartbeats 4000000 in
set_option maxRecDepth 100000 in
theorem c_X0_store {g : Nat} (hg : g < 2) {b : Nat} (hb : b < 2) {w : Wd} {P : PT} (hC : isC w b P) (hz : P.1.2.2.2 = 0 ∨ P.1.2.2.2 = 1) {k : Nat} (hk : 30 * k + 30 ≤ mlen g) {Q : Option Value → Wd → Prop} (hQ : ∀ u, rowR (u.2.2 (mc g)) (30 * k) P → (∀ i, (i < 30 * k ∨ 30 * k + 30 ≤ i) → u.2.2 (mc g) i = w.2.2 (mc g) i) → FrA (mc g) w u → Q none u) : V mX0_store 0 [some (.ref (mr g)), some (.int (nI k)), some (.ref (pr b)), none] [] w Q := by
  have hm := mlen_lt g
  have h5 := hC.2.2.2.2.1
  have h4 := hC.2.2.2.2.2.1
  obtain ⟨a, ha⟩ : ∃ a, a = 30 * k := ⟨_, rfl⟩
  refine la_4_0 1 dX0_store_0 rfl ?_
  refine li_4_1 2 dX0_store_1 rfl ?_
  refine v_cVI1 5 dX0_store_2 rfl fvX0_holds fiX0_holds ml_X0_21 (seX0 hg) rfl ⟨(Nat.le_of_ble_eq_true rfl), (Nat.le_of_ble_eq_true rfl)⟩ (Nat.le_of_ble_eq_true rfl) (Nat.le_of_ble_eq_true rfl) (c_X0_holds hg hk ⟨_, rfl, ?_⟩) rfl
  refine v_if_ne 9 8 dX0_store_5 rfl rfl (fun h5 => ?_) (fun h5 => ?_)
  · refine li_4_1 10 dX0_store_9 rfl ?_
    refine v_bipush (v := 30) 12 dX0_store_10 rfl kb_30 ?_
    refine v_imul 13 dX0_store_12 rfl ?_
    rw [show nI k * 30 = nI a from by rw [show (30 : Int32) = nI 30 from rfl, pk_mul, ha]; congr 1; omega]
    refine si_4_3 rfl 14 dX0_store_13 rfl rfl ?_
    refine la_4_2 15 dX0_store_14 rfl ?_
    refine vg_X0_25 hb rfl 18 dX0_store_15 rfl ?_
    refine v_iconst (v := 0) 19 dX0_store_18 rfl ki_0 ?_
    refine la_4_0 20 dX0_store_19 rfl ?_
    refine vg_X0_17 hg rfl 23 dX0_store_20 rfl ?_
    refine li_4_3 24 dX0_store_23 rfl ?_
    refine v_iconst (v := 5) 25 dX0_store_24 rfl ki_5 ?_
    refine v_copyR 0 a 5 28 dX0_store_25 rfl ml_X0_30 (saX1_age hb) (saX0_cells hg) (fun f kI kZ => suX0_cells hg kI kZ) (by omega) (by omega) (by omega) (by omega) (by decide) (by decide) (Nat.le_of_ble_eq_true rfl) (fun u1 e1 F1 => ?_)
    refine la_4_2 29 dX0_store_28 rfl ?_
    refine vg_X0_36 hb rfl 32 dX0_store_29 rfl ?_
    refine v_iconst (v := 0) 33 dX0_store_32 rfl ki_0 ?_
    refine la_4_0 34 dX0_store_33 rfl ?_
    refine vg_X0_17 hg rfl 37 dX0_store_34 rfl ?_
    refine li_4_3 38 dX0_store_37 rfl ?_
    refine v_iconst (v := 5) 39 dX0_store_38 rfl ki_5 ?_
    refine v_iadd 40 dX0_store_39 rfl ?_
    rw [show nI a + 5 = nI (a + 5) from nI_add a 5]
    refine v_iconst (v := 5) 41 dX0_store_40 rfl ki_5 ?_
    refine v_copyR 0 (a + 5) 5 44 dX0_store_41 rfl ml_X0_30 (saX1_health hb) (saX0_cells hg) (fun f kI kZ => suX0_cells hg kI kZ) (by omega) (by omega) (by omega) (by omega) (by decide) (by decide) (Nat.le_of_ble_eq_true rfl) (fun u2 e2 F2 => ?_)
    refine la_4_2 45 dX0_store_44 rfl ?_
    refine vg_X0_39 hb rfl 48 dX0_store_45 rfl ?_
    refine v_iconst (v := 0) 49 dX0_store_48 rfl ki_0 ?_
    refine la_4_0 50 dX0_store_49 rfl ?_
    refine vg_X0_17 hg rfl 53 dX0_store_50 rfl ?_
    refine li_4_3 54 dX0_store_53 rfl ?_
    refine v_bipush (v := 10) 56 dX0_store_54 rfl kb_10 ?_
    refine v_iadd 57 dX0_store_56 rfl ?_
    rw [show nI a + 10 = nI (a + 10) from nI_add a 10]
    refine v_iconst (v := 5) 58 dX0_store_57 rfl ki_5 ?_
    refine v_copyR 0 (a + 10) 5 61 dX0_store_58 rfl ml_X0_30 (saX1_joined hb) (saX0_cells hg) (fun f kI kZ => suX0_cells hg kI kZ) (by omega) (by omega) (by omega) (by omega) (by decide) (by decide) (Nat.le_of_ble_eq_true rfl) (fun u3 e3 F3 => ?_)
    refine la_4_2 62 dX0_store_61 rfl ?_
    refine vg_X0_42 hb rfl 65 dX0_store_62 rfl ?_
    refine v_iconst (v := 0) 66 dX0_store_65 rfl ki_0 ?_
    refine la_4_0 67 dX0_store_66 rfl ?_
    refine vg_X0_17 hg rfl 70 dX0_store_67 rfl ?_
    refine li_4_3 71 dX0_store_70 rfl ?_
    refine v_bipush (v := 15) 73 dX0_store_71 rfl kb_15 ?_
    refine v_iadd 74 dX0_store_73 rfl ?_
    rw [show nI a + 15 = nI (a + 15) from nI_add a 15]
    refine v_iconst (v := 5) 75 dX0_store_74 rfl ki_5 ?_
    refine v_copyR 0 (a + 15) 5 78 dX0_store_75 rfl ml_X0_30 (saX1_on hb) (saX0_cells hg) (fun f kI kZ => suX0_cells hg kI kZ) (by omega) (by omega) (by omega) (by omega) (by decide) (by decide) (Nat.le_of_ble_eq_true rfl) (fun u4 e4 F4 => ?_)
    refine la_4_2 79 dX0_store_78 rfl ?_
    refine vg_X0_45 hb rfl 82 dX0_store_79 rfl ?_
    refine v_iconst (v := 0) 83 dX0_store_82 rfl ki_0 ?_
    refine la_4_0 84 dX0_store_83 rfl ?_
    refine vg_X0_17 hg rfl 87 dX0_store_84 rfl ?_
    refine li_4_3 88 dX0_store_87 rfl ?_
    refine v_bipush (v := 20) 90 dX0_store_88 rfl kb_20 ?_
    refine v_iadd 91 dX0_store_90 rfl ?_
    rw [show nI a + 20 = nI (a + 20) from nI_add a 20]
    refine v_iconst (v := 4) 92 dX0_store_91 rfl ki_4 ?_
    refine v_copyR 0 (a + 20) 4 95 dX0_store_92 rfl ml_X0_30 (saX1_left hb) (saX0_cells hg) (fun f kI kZ => suX0_cells hg kI kZ) (by omega) (by omega) (by omega) (by omega) (by decide) (by decide) (Nat.le_of_ble_eq_true rfl) (fun u5 e5 F5 => ?_)
    refine la_4_2 96 dX0_store_95 rfl ?_
    refine vg_X0_48 hb rfl 99 dX0_store_96 rfl ?_
    refine v_iconst (v := 0) 100 dX0_store_99 rfl ki_0 ?_
    refine la_4_0 101 dX0_store_100 rfl ?_
    refine vg_X0_17 hg rfl 104 dX0_store_101 rfl ?_
    refine li_4_3 105 dX0_store_104 rfl ?_
    refine v_bipush (v := 24) 107 dX0_store_105 rfl kb_24 ?_
    refine v_iadd 108 dX0_store_107 rfl ?_
    rw [show nI a + 24 = nI (a + 24) from nI_add a 24]
    refine v_iconst (v := 4) 109 dX0_store_108 rfl ki_4 ?_
    refine v_copyR 0 (a + 24) 4 112 dX0_store_109 rfl ml_X0_30 (saX1_fate hb) (saX0_cells hg) (fun f kI kZ => suX0_cells hg kI kZ) (by omega) (by omega) (by omega) (by omega) (by decide) (by decide) (Nat.le_of_ble_eq_true rfl) (fun u6 e6 F6 => ?_)
    refine la_4_0 113 dX0_store_112 rfl ?_
    refine vg_X0_17 hg rfl 116 dX0_store_113 rfl ?_
    refine li_4_3 117 dX0_store_116 rfl ?_
    refine v_bipush (v := 28) 119 dX0_store_117 rfl kb_28 ?_
    refine v_iadd 120 dX0_store_119 rfl ?_
    rw [show nI a + 28 = nI (a + 28) from nI_add a 28]
    refine la_4_2 121 dX0_store_120 rfl ?_
    refine vgq_X0_51 hb ((((((hC.fA hb (by first | decide | (unfold mc; omega)) F1).fA hb (by first | decide | (unfold mc; omega)) F2).fA hb (by first | decide | (unfold mc; omega)) F3).fA hb (by first | decide | (unfold mc; omega)) F4).fA hb (by first | decide | (unfold mc; omega)) F5).fA hb (by first | decide | (unfold mc; omega)) F6) rfl 124 dX0_store_121 rfl ?_
    refine v_if_eq 131 127 dX0_store_124 rfl rfl (fun h124 => ?_) (fun h124 => ?_)
    · refine v_iconst (v := 0) 132 dX0_store_131 rfl ki_0 ?_
      refine vw_X0_cells hg (a + 28) 133 dX0_store_132 rfl rfl (by omega) (vrel (fun u7 e7 F7 => ?_))
      refine la_4_0 134 dX0_store_133 rfl ?_
      refine vg_X0_17 hg rfl 137 dX0_store_134 rfl ?_
      refine li_4_3 138 dX0_store_137 rfl ?_
      refine v_bipush (v := 29) 140 dX0_store_138 rfl kb_29 ?_
      refine v_iadd 141 dX0_store_140 rfl ?_
      rw [show nI a + 29 = nI (a + 29) from nI_add a 29]
      refine la_4_2 142 dX0_store_141 rfl ?_
      refine vgq_X0_55 hb (((((((hC.fA hb (by first | decide | (unfold mc; omega)) F1).fA hb (by first | decide | (unfold mc; omega)) F2).fA hb (by first | decide | (unfold mc; omega)) F3).fA hb (by first | decide | (unfold mc; omega)) F4).fA hb (by first | decide | (unfold mc; omega)) F5).fA hb (by first | decide | (unfold mc; omega)) F6).fA hb (by first | decide | (unfold mc; omega)) F7) rfl 145 dX0_store_142 rfl ?_
      refine vw_X0_cells hg (a + 29) 146 dX0_store_145 rfl rfl (by omega) (vrel (fun u8 e8 F8 => ?_))
      refine v_vret dX0_store_146 rfl ?_
      refine hQ _ ⟨?_, ?_, fun s hs => ⟨?_, ?_, ?_, ?_⟩, fun s hs => ⟨?_, ?_⟩⟩ (fun i hi => ?_) (F1.tr (F2.tr (F3.tr (F4.tr (F5.tr (F6.tr (F7.tr F8)))))))
      · rw [← ha, e8, if_pos rfl]
      · rw [← ha, e8, if_neg (by omega), e7, if_pos rfl]; exact h124.symm
      · rw [← ha, e8, if_neg (by omega), e7, if_neg (by omega), e6, if_neg (by omega), e5, if_neg (by omega), e4, if_neg (by omega), e3, if_neg (by omega), e2, if_neg (by omega), e1, if_pos (by omega), show 0 + (a + s - (a)) = s by omega]; exact (hC).2.2.2.2.2.2.1 0 s (by decide) hs
      · rw [← ha, e8, if_neg (by omega), e7, if_neg (by omega), e6, if_neg (by omega), e5, if_neg (by omega), e4, if_neg (by omega), e3, if_neg (by omega), e2, if_pos (by omega), show 0 + (a + 5 + s - (a + 5)) = s by omega]; exact ((hC.fA hb (by unfold mc; omega) F1)).2.2.2.2.2.2.1 1 s (by decide) hs
      · rw [← ha, e8, if_neg (by omega), e7, if_neg (by omega), e6, if_neg (by omega), e5, if_neg (by omega), e4, if_neg (by omega), e3, if_pos (by omega), show 0 + (a + 10 + s - (a + 10)) = s by omega]; exact ((hC.fA hb (by unfold mc; omega) (F1.tr F2))).2.2.2.2.2.2.1 3 s (by decide) hs
      · rw [← ha, e8, if_neg (by omega), e7, if_neg (by omega), e6, if_neg (by omega), e5, if_neg (by omega), e4, if_pos (by omega), show 0 + (a + 15 + s - (a + 15)) = s by omega]; exact ((hC.fA hb (by unfold mc; omega) (F1.tr (F2.tr F3)))).2.2.2.2.2.2.1 4 s (by decide) hs
      · rw [← ha, e8, if_neg (by omega), e7, if_neg (by omega), e6, if_neg (by omega), e5, if_pos (by omega), show 0 + (a + 20 + s - (a + 20)) = s by omega]; exact ((hC.fA hb (by unfold mc; omega) (F1.tr (F2.tr (F3.tr F4))))).2.2.2.2.2.2.2 5 s (by decide) (by decide) hs
      · rw [← ha, e8, if_neg (by omega), e7, if_neg (by omega), e6, if_pos (by omega), show 0 + (a + 24 + s - (a + 24)) = s by omega]; exact ((hC.fA hb (by unfold mc; omega) (F1.tr (F2.tr (F3.tr (F4.tr F5)))))).2.2.2.2.2.2.2 7 s (by decide) (by decide) hs
      · rw [← ha] at hi; rw [e8, if_neg (by omega), e7, if_neg (by omega), e6, if_neg (by omega), e5, if_neg (by omega), e4, if_neg (by omega), e3, if_neg (by omega), e2, if_neg (by omega), e1, if_neg (by omega)]
    · refine v_iconst (v := 1) 128 dX0_store_127 rfl ki_1 ?_
      refine v_goto 132 dX0_store_128 rfl ?_
      refine vw_X0_cells hg (a + 28) 133 dX0_store_132 rfl rfl (by omega) (vrel (fun u7 e7 F7 => ?_))
      refine la_4_0 134 dX0_store_133 rfl ?_
      refine vg_X0_17 hg rfl 137 dX0_store_134 rfl ?_
      refine li_4_3 138 dX0_store_137 rfl ?_
      refine v_bipush (v := 29) 140 dX0_store_138 rfl kb_29 ?_
      refine v_iadd 141 dX0_store_140 rfl ?_
      rw [show nI a + 29 = nI (a + 29) from nI_add a 29]
      refine la_4_2 142 dX0_store_141 rfl ?_
      refine vgq_X0_55 hb (((((((hC.fA hb (by first | decide | (unfold mc; omega)) F1).fA hb (by first | decide | (unfold mc; omega)) F2).fA hb (by first | decide | (unfold mc; omega)) F3).fA hb (by first | decide | (unfold mc; omega)) F4).fA hb (by first | decide | (unfold mc; omega)) F5).fA hb (by first | decide | (unfold mc; omega)) F6).fA hb (by first | decide | (unfold mc; omega)) F7) rfl 145 dX0_store_142 rfl ?_
      refine vw_X0_cells hg (a + 29) 146 dX0_store_145 rfl rfl (by omega) (vrel (fun u8 e8 F8 => ?_))
      refine v_vret dX0_store_146 rfl ?_
      refine hQ _ ⟨?_, ?_, fun s hs => ⟨?_, ?_, ?_, ?_⟩, fun s hs => ⟨?_, ?_⟩⟩ (fun i hi => ?_) (F1.tr (F2.tr (F3.tr (F4.tr (F5.tr (F6.tr (F7.tr F8)))))))
      · rw [← ha, e8, if_pos rfl]
      · rw [← ha, e8, if_neg (by omega), e7, if_pos rfl]; exact (hz.resolve_left h124).symm
      · rw [← ha, e8, if_neg (by omega), e7, if_neg (by omega), e6, if_neg (by omega), e5, if_neg (by omega), e4, if_neg (by omega), e3, if_neg (by omega), e2, if_neg (by omega), e1, if_pos (by omega), show 0 + (a + s - (a)) = s by omega]; exact (hC).2.2.2.2.2.2.1 0 s (by decide) hs
      · rw [← ha, e8, if_neg (by omega), e7, if_neg (by omega), e6, if_neg (by omega), e5, if_neg (by omega), e4, if_neg (by omega), e3, if_neg (by omega), e2, if_pos (by omega), show 0 + (a + 5 + s - (a + 5)) = s by omega]; exact ((hC.fA hb (by unfold mc; omega) F1)).2.2.2.2.2.2.1 1 s (by decide) hs
      · rw [← ha, e8, if_neg (by omega), e7, if_neg (by omega), e6, if_neg (by omega), e5, if_neg (by omega), e4, if_neg (by omega), e3, if_pos (by omega), show 0 + (a + 10 + s - (a + 10)) = s by omega]; exact ((hC.fA hb (by unfold mc; omega) (F1.tr F2))).2.2.2.2.2.2.1 3 s (by decide) hs
      · rw [← ha, e8, if_neg (by omega), e7, if_neg (by omega), e6, if_neg (by omega), e5, if_neg (by omega), e4, if_pos (by omega), show 0 + (a + 15 + s - (a + 15)) = s by omega]; exact ((hC.fA hb (by unfold mc; omega) (F1.tr (F2.tr F3)))).2.2.2.2.2.2.1 4 s (by decide) hs
      · rw [← ha, e8, if_neg (by omega), e7, if_neg (by omega), e6, if_neg (by omega), e5, if_pos (by omega), show 0 + (a + 20 + s - (a + 20)) = s by omega]; exact ((hC.fA hb (by unfold mc; omega) (F1.tr (F2.tr (F3.tr F4))))).2.2.2.2.2.2.2 5 s (by decide) (by decide) hs
      · rw [← ha, e8, if_neg (by omega), e7, if_neg (by omega), e6, if_pos (by omega), show 0 + (a + 24 + s - (a + 24)) = s by omega]; exact ((hC.fA hb (by unfold mc; omega) (F1.tr (F2.tr (F3.tr (F4.tr F5)))))).2.2.2.2.2.2.2 7 s (by decide) (by decide) hs
      · rw [← ha] at hi; rw [e8, if_neg (by omega), e7, if_neg (by omega), e6, if_neg (by omega), e5, if_neg (by omega), e4, if_neg (by omega), e3, if_neg (by omega), e2, if_neg (by omega), e1, if_neg (by omega)]
  · exact absurd h5 (by decide)

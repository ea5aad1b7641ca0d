/-! ===== what was made stays ===== -/
def Gro (Z Z' : Mz) : Prop := zN Z ≤ zN Z' ∧ ∀ a, a < zN Z → (a ≠ 2 → zP Z' a = zP Z a) ∧ zK Z' a = zK Z a ∧ zL Z' a = zL Z a
theorem Gro.rf {Z : Mz} : Gro Z Z := ⟨Nat.le_refl _, fun _ _ => ⟨fun _ => rfl, rfl, rfl⟩⟩
theorem Gro.tr {Z Y X : Mz} (s : Gro Z Y) (t : Gro Y X) : Gro Z X := ⟨Nat.le_trans s.1 t.1, fun a ha => by
  obtain ⟨s1, s2, s3⟩ := s.2 a ha
  obtain ⟨t1, t2, t3⟩ := t.2 a (Nat.lt_of_lt_of_le ha s.1)
  exact ⟨fun h => (t1 h).trans (s1 h), t2.trans s2, t3.trans s3⟩⟩
theorem Gro.pu {Z Y : Mz} (s : Gro Z Y) {a k : Nat} {r : Option Nat} (ha : a = 2 ∨ zN Z ≤ a) : Gro Z (pU (zP Y) a k r, Y.2) := ⟨s.1, fun b hb => by
  obtain ⟨s1, s2, s3⟩ := s.2 b hb
  refine ⟨fun h => ?_, s2, s3⟩
  rw [← s1 h]
  funext j
  show (if b = a ∧ j = k then r else zP Y b j) = _
  rw [if_neg (by omega)]⟩
abbrev zO (Z : Mz) (ci : Nat) : Mz := (fun b => if b = zN Z then (fun _ => none) else zP Z b, nU (zK Z) (zN Z) ci, nU (zL Z) (zN Z) 0, zN Z + 1)
abbrev zA (Z : Mz) (n : Nat) : Mz := (zP Z, nU (zK Z) (zN Z) 7, nU (zL Z) (zN Z) n, zN Z + 1)
theorem Gro.o {Z : Mz} (ci : Nat) : Gro Z (zO Z ci) := ⟨Nat.le_succ _, fun a ha => by
  refine ⟨fun _ => ?_, ?_, ?_⟩
  · show (if a = zN Z then (fun _ => none) else zP Z a) = _
    rw [if_neg (by omega)]
  · show nU (zK Z) (zN Z) ci a = _
    rw [nU, if_neg (by omega)]
  · show nU (zL Z) (zN Z) 0 a = _
    rw [nU, if_neg (by omega)]⟩
theorem Gro.a {Z : Mz} (n : Nat) : Gro Z (zA Z n) := ⟨Nat.le_succ _, fun a ha => by
  refine ⟨fun _ => rfl, ?_, ?_⟩
  · show nU (zK Z) (zN Z) 7 a = _
    rw [nU, if_neg (by omega)]
  · show nU (zL Z) (zN Z) n a = _
    rw [nU, if_neg (by omega)]⟩
theorem ObjZ.gro {Z Z' : Mz} {a ci : Nat} (g : Gro Z Z') (h : ObjZ Z a ci) : ObjZ Z' a ci := ⟨Nat.lt_of_lt_of_le h.1 g.1, by rw [(g.2 a h.1).2.1]; exact h.2⟩
theorem ArrI.gro {Z Z' : Mz} {a n : Nat} (g : Gro Z Z') (h : ArrI Z a n) : ArrI Z' a n := ⟨Nat.lt_of_lt_of_le h.1 g.1, by rw [(g.2 a h.1).2.1]; exact h.2.1, by rw [(g.2 a h.1).2.2]; exact h.2.2⟩
theorem ArrB.gro {Z Z' : Mz} {a n : Nat} (g : Gro Z Z') (h : ArrB Z a n) : ArrB Z' a n := ⟨Nat.lt_of_lt_of_le h.1 g.1, by rw [(g.2 a h.1).2.1]; exact h.2.1, by rw [(g.2 a h.1).2.2]; exact h.2.2⟩
theorem ArrO.gro {Z Z' : Mz} {a n : Nat} (g : Gro Z Z') (h : ArrO Z a n) : ArrO Z' a n := ⟨Nat.lt_of_lt_of_le h.1 g.1, by rw [(g.2 a h.1).2.1]; exact h.2.1, by rw [(g.2 a h.1).2.2]; exact h.2.2⟩
theorem ObjZ.pt {Z Z' : Mz} {a ci k b : Nat} (h : ObjZ Z a ci) (g : Gro Z Z') (h2 : a ≠ 2) (e : zP Z a k = some b) : zP Z' a k = some b := by rw [(g.2 a h.1).1 h2]; exact e
theorem ScZ.gro {Z Z' : Mz} (g : Gro Z Z') (h : ScZ Z) : ScZ Z' := by
  obtain ⟨o, p1, p2, p3, p4, p5, a1, a2, a3, a4, a5⟩ := h
  exact ⟨o.gro g, o.pt g (by decide) p1, o.pt g (by decide) p2, o.pt g (by decide) p3, o.pt g (by decide) p4, o.pt g (by decide) p5, a1.gro g, a2.gro g, a3.gro g, a4.gro g, a5.gro g⟩
theorem HZ.gro {Z Z' : Mz} {h : Nat} (g : Gro Z Z') (h2 : h ≠ 2) (w : HZ Z h) : HZ Z' h := by
  obtain ⟨o, p1, p2, p3, p4, p5, p6, p7, p8, p9, a1, a2, a3, a4, a5, a6, a7, a8⟩ := w
  exact ⟨o.gro g, o.pt g h2 p1, o.pt g h2 p2, o.pt g h2 p3, o.pt g h2 p4, o.pt g h2 p5, o.pt g h2 p6, o.pt g h2 p7, o.pt g h2 p8, o.pt g h2 p9, a1.gro g, a2.gro g, a3.gro g, a4.gro g, a5.gro g, a6.gro g, a7.gro g, a8.gro g⟩
theorem ShZ.gro {Z Z' : Mz} (g : Gro Z Z') (h : ShZ Z) : ShZ Z' := by
  obtain ⟨o, p1, p2, a1, a2⟩ := h
  exact ⟨o.gro g, o.pt g (by decide) p1, o.pt g (by decide) p2, a1.gro g, a2.gro g⟩
theorem StZ.gro {Z Z' : Mz} {a : Nat} (g : Gro Z Z') (h2 : a ≠ 2) (h : StZ Z a) : StZ Z' a := ⟨h.1.gro g, h.1.pt g h2 h.2.1, h.2.2.gro g⟩
theorem GZ.gro {Z Z' : Mz} (g : Gro Z Z') (h : GZ Z) : GZ Z' := by
  obtain ⟨o, p1, p2, p3, p4, p5, p6, a1, st, h1, h2, h3, sh, sc⟩ := h
  refine ⟨o.gro g, o.pt g (by decide) p1, o.pt g (by decide) p2, o.pt g (by decide) p3, o.pt g (by decide) p4, o.pt g (by decide) p5, o.pt g (by decide) p6, a1.gro g, fun s hs => ⟨?_, (st s hs).2.gro g (by omega)⟩, h1.gro g (by decide), h2.gro g (by decide), h3.gro g (by decide), sh.gro g, sc.gro g⟩
  rw [(g.2 37 a1.1).1 (by decide)]
  exact (st s hs).1
theorem MZ.gro {Z Z' : Mz} (g : Gro Z Z') (h : MZ Z) : MZ Z' := by
  obtain ⟨o, p1, a1, p2, a2, p3, a3, p4, a4, p5, a5, p6, a6, p7, a7, p8, a8, p9, a9, p10, a10, p11, a11, p12, a12, p13, a13, p14, a14, p15, a15⟩ := h
  exact ⟨o.gro g, o.pt g (by decide) p1, a1.gro g, o.pt g (by decide) p2, a2.gro g, o.pt g (by decide) p3, a3.gro g, o.pt g (by decide) p4, a4.gro g, o.pt g (by decide) p5, a5.gro g, o.pt g (by decide) p6, a6.gro g, o.pt g (by decide) p7, a7.gro g, o.pt g (by decide) p8, a8.gro g, o.pt g (by decide) p9, a9.gro g, o.pt g (by decide) p10, a10.gro g, o.pt g (by decide) p11, a11.gro g, o.pt g (by decide) p12, a12.gro g, o.pt g (by decide) p13, a13.gro g, o.pt g (by decide) p14, a14.gro g, o.pt g (by decide) p15, a15.gro g⟩
theorem TxZ.gro {Z Z' : Mz} {t q m : Nat} (g : Gro Z Z') (h2 : t ≠ 2) (h : TxZ Z t q m) : TxZ Z' t q m := ⟨h.1.gro g, h.1.pt g h2 h.2.1, h.2.2.gro g⟩
theorem zO_new {Z : Mz} {ci : Nat} : ObjZ (zO Z ci) (zN Z) ci := ⟨Nat.lt_succ_self _, by show nU (zK Z) (zN Z) ci (zN Z) = ci; rw [nU, if_pos rfl]⟩
theorem zA_new {Z : Mz} {n : Nat} : ArrI (zA Z n) (zN Z) n := ⟨Nat.lt_succ_self _, by show nU (zK Z) (zN Z) 7 (zN Z) = 7; rw [nU, if_pos rfl], by show nU (zL Z) (zN Z) n (zN Z) = n; rw [nU, if_pos rfl]⟩
/-! ===== the class: a text is made ===== -/
theorem c_copyOf {E : Ev} {d : Nat} {I : Mi} {L : Ml} {Z : Mz} {Q : Po} {a w n : Nat} (hd : 1 ≤ d) (hA : ArrI Z a n) (hn : n < 1000) (hw : w < n) (hQ : ∀ J : Mi, (∀ b, b ≠ zN Z → J b = I b) → (∀ j, j < w → J (zN Z) j = I a j) → Q (some (.ref (zN Z))) J L (zA Z w)) : AC E yJ7_copyOf_59c91 cJ7_copyOf_59c91 3 (some (.array .int)) d 1 n [.ref a, .int (nI w)] I L Z Q := by
  have hA2 : ArrI (zA Z w) a n := hA.gro (Gro.a w)
  have hN : ArrI (zA Z w) (zN Z) w := zA_new
  refine ac_go (ls := [some (.ref a), some (.int (nI w)), none]) (by decide +kernel) (Nat.le_of_ble_eq_true rfl) rfl ?_
  refine aw_iload_n dJ7_copyOf_59c91_0 rfl ?_
  refine aw_aload_n dJ7_copyOf_59c91_1 rfl rfl ?_
  refine aw_al dJ7_copyOf_59c91_2 hA ?_
  refine aw_icmp_ne (tgt := 14) dJ7_copyOf_59c91_3 (by decide) (fun _ => ?_) (fun zz => absurd ((nI_eq (by omega) (by omega)).mp zz) (by omega))
  refine aw_iload_n dJ7_copyOf_59c91_14 rfl ?_
  refine aw_newi dJ7_copyOf_59c91_15 (nI_pos (by omega)) (nI_clamp (by omega)) (by omega) (show 0 + 1 ≤ 1 from Nat.le_refl 1) (show 0 + w ≤ n by omega) ac_int ?_
  refine aw_astore_n (ls' := [_, _, _]) dJ7_copyOf_59c91_17 (by decide) rfl rfl rfl ?_
  refine aw_aload_n dJ7_copyOf_59c91_18 rfl rfl ?_
  refine aw_iconst (v := 0) dJ7_copyOf_59c91_19 (by decide) ?_
  refine aw_aload_n dJ7_copyOf_59c91_20 rfl rfl ?_
  refine aw_iconst (v := 0) dJ7_copyOf_59c91_21 (by decide) ?_
  refine aw_aload_n dJ7_copyOf_59c91_22 rfl rfl ?_
  refine aw_al dJ7_copyOf_59c91_23 hA2 ?_
  refine aw_iload_n dJ7_copyOf_59c91_24 rfl ?_
  refine aw_mmin dJ7_copyOf_59c91_25 ml_J7_304 (rm_ok (d' := 0) (by omega)) (by simp [Value.category]) ?_
  rw [if_pos (nI_lt hw (by omega))]
  refine aw_copy dJ7_copyOf_59c91_28 cw_J7_150 hA2.1 hN.1 hA2.2.1 hN.2.1 (by decide) (by decide) (nI_pos (by omega)) (by rw [hA2.2.2, nI_clamp (by omega)]; show 0 + w ≤ n; omega) (by rw [hN.2.2, nI_clamp (by omega)]; show 0 + w ≤ w; omega) (rm_ok (d' := 0) (by omega)) (by decide) ?_
  refine aw_aload_n dJ7_copyOf_59c91_31 rfl rfl ?_
  refine aw_areturn (ty := .array .int) dJ7_copyOf_59c91_32 rfl (Or.inr ⟨_, rfl⟩) ?_
  have hne : a ≠ zN Z := Nat.ne_of_lt hA.1
  refine hQ _ (fun b hb => ?_) (fun j hj => ?_)
  · simp only [rU, hb, if_false]
  · simp only [rU, if_true, va_cpy, nI_clamp (show w < 2 ^ 31 by omega), hne, if_false]
    have e0 : (0 : Int32).toNatClampNeg = 0 := rfl
    rw [e0, if_pos (by omega)]
    congr 1
    omega
theorem c_X4_init {E : Ev} {d : Nat} {I : Mi} {L : Ml} {Z : Mz} {Q : Po} {a q : Nat} {x y : Int32} (hd : 1 ≤ d) (hA : ObjZ Z a 4) (hQ : Q none (iU (iU I a 1 x) a 2 y) L (pU (zP Z) a 0 (some q), Z.2)) : AC E yX4_init cX4_init 4 none d 0 0 [.ref a, .ref q, .int x, .int y] I L Z Q := by
  refine ac_go (ls := [some (.ref a), some (.ref q), some (.int x), some (.int y)]) (by decide +kernel) (Nat.le_of_ble_eq_true rfl) rfl ?_
  refine aw_aload_n dX4_init_0 rfl rfl ?_
  refine aw_objInit dX4_init_1 cw_X4_3 oi_ok.1 oi_ok.2 ⟨hd, by show 20 ≤ 64 * d; omega⟩ (by decide) ?_
  refine aw_aload_n dX4_init_4 rfl rfl ?_
  refine aw_aload_n dX4_init_5 rfl rfl ?_
  refine aw_pp dX4_init_6 fw_X4_9 ww_X4_9 hA ?_
  refine aw_aload_n dX4_init_9 rfl rfl ?_
  refine aw_iload_n dX4_init_10 rfl ?_
  refine aw_pi dX4_init_11 fw_X4_15 ww_X4_15 hA rfl ?_
  refine aw_aload_n dX4_init_14 rfl rfl ?_
  refine aw_iload_n dX4_init_15 rfl ?_
  refine aw_pi dX4_init_16 fw_X4_19 ww_X4_19 hA rfl ?_
  exact aw_return dX4_init_19 rfl hQ
theorem cl_ok2 {S V : Nat → Nat} {T key k : Nat} (hV : VOK S V T) (hk : k ≤ T) (h0 : key ≠ 0) : (clR S V key k).1 ≤ T ∧ ∀ c v, (clR S V key k).2 = some (c, v) → k + c.length + 2 ≤ (clR S V key k).1 ∧ EvP c v := by
  unfold clR
  by_cases h : S k = key
  · rw [if_pos h]
    have hkT : k < T := lt_of_S hV.1 hk (by omega)
    obtain ⟨g1, g2, g3⟩ := (all_ok hV (lv_ok hV 5)).2.2.2.2.2 (k + 1) (by omega)
    match hq : eitR S V (lvR S V 5) (k + 1), g1, g2, g3 with
    | (k', none), g1, g2, g3 => exact ⟨g2, fun c v e => absurd e (by simp)⟩
    | (k', some x), g1, g2, g3 =>
      obtain ⟨a1, a2, a3, a4⟩ := g3 x.1 x.2 rfl
      simp only at a1 a2 g2 ⊢
      by_cases h12 : S k' = 12
      · rw [if_pos h12]
        have := lt_of_S hV.1 g2 (by omega)
        refine ⟨by simp only; omega, fun c v e => ?_⟩
        simp only [Option.some.injEq] at e
        subst e
        exact ⟨by simp only at a2 ⊢; omega, a4⟩
      · rw [if_neg h12]
        exact ⟨g2, fun c v e => absurd e (by simp)⟩
  · rw [if_neg h]
    exact ⟨hk, fun c v e => absurd e (by simp)⟩
theorem ev_run {c : List Int32} {v : Vl} (h : EvP c v) (nm stp : Nat → Int32) (j : Nat) (hA : AtS stp j c) (hl : c.length ≤ 160) : wF stp nm c.length j [] = v nm := by
  have := h nm stp 0 j [] hA (by simpa using hl)
  rw [Nat.add_zero] at this
  rw [this]
  rfl
theorem AtS_get {f g : Nat → Int32} : ∀ (c : List Int32) (j : Nat), (∀ i, i < c.length → g i = f (j + i)) → AtS f j c → AtS g 0 c := by
  intro c j h hA
  have : ∀ (c : List Int32) (a b : Nat), (∀ i, i < c.length → g (a + i) = f (b + i)) → AtS f b c → AtS g a c := by
    intro c
    induction c with
    | nil => intro a b _ _; trivial
    | cons x xs ih =>
      intro a b h hA
      refine ⟨by have := h 0 (by simp); rw [Nat.add_zero, Nat.add_zero] at this; rw [this]; exact hA.1, ih (a + 1) (b + 1) (fun i hi => ?_) hA.2⟩
      have := h (i + 1) (by simp only [List.length_cons]; omega)
      rw [show a + 1 + i = a + (i + 1) by omega, show b + 1 + i = b + (i + 1) by omega]
      exact this
  exact this c 0 j (fun i hi => by rw [Nat.zero_add]; exact h i hi) hA
def SaC (I J : Mi) : Prop := ∀ a j, ¬ (a = 4 ∧ 5 ≤ j) → (a < 6 ∨ 9 < a) → J a j = I a j
theorem SaX.c {I J : Mi} (s : SaX I J) : SaC I J := fun a j h g => s a j (by omega) (by omega) (by omega) (by omega)
theorem SaP.c {I J : Mi} (s : SaP I J) : SaC I J := fun a j h g => s a j (by omega) (by omega)
theorem SaC.tr {I J K : Mi} (s : SaC I J) (t : SaC J K) : SaC I K := fun a j h g => (t a j h g).trans (s a j h g)
theorem SaC.u {I J : Mi} (s : SaC I J) (k : Nat) (x : Int32) (hk : 5 ≤ k) : SaC I (iU J 4 k x) := fun a j h g => by rw [iU_at (by omega)]; exact s a j h g
theorem c_X1_compiled {E : Ev} {d : Nat} {I : Mi} {L : Ml} {Z : Mz} {Q : Po} {N : Nat} {xs : Nat → Int32} {n : Nat} (hd : 50 ≤ d) (hE : EXT E N xs) (hC : ScZ Z) (hn : I 4 1 = nI n) (hn6 : n ≤ 160) (hF : ∀ k', txR (SS (I 5) n) (VV (I 5) n) = (k', none) → ∀ J : Mi, SaC I J → J 4 9 = nI (plF (I 5) n k') → Q (some .null) J L Z) (hK : ∀ k' x1 x2 x3, txR (SS (I 5) n) (VV (I 5) n) = (k', some (x1, x2, x3)) → ∀ (J : Mi) (K : Ml) (Y : Mz), (∀ a j, a < zN Z → ¬ (a = 4 ∧ 5 ≤ j) → (a < 6 ∨ 9 < a) → J a j = I a j) → Gro Z Y → zN Y = zN Z + 2 → zP Y 2 = zP Z 2 → TxZ Y (zN Z) (zN Z + 1) (x1.1 ++ x2.1 ++ x3.1).length → J (zN Z) 1 = nI x1.1.length → J (zN Z) 2 = nI (x1.1.length + x2.1.length) → AtS (J (zN Z + 1)) 0 (x1.1 ++ x2.1 ++ x3.1) → (x1.1 ++ x2.1 ++ x3.1).length < 160 → EvP x1.1 x1.2 → EvP x2.1 x2.2 → EvP x3.1 x3.2 → Q (some (.ref (zN Z))) J K Y) : AC E yX1_compiled cX1_compiled 4 (some (.object "GroundsReadOut$Text")) d 2 163 [.ref 4] I L Z Q := by
  refine ac_go (ls := [some (.ref 4), none, none, none]) (by decide +kernel) (Nat.le_of_ble_eq_true rfl) rfl ?_
  refine aw_aload_n dX1_compiled_0 rfl rfl ?_
  refine aw_V0 dX1_compiled_1 cw_X1_31 ⟨_, _, rfl⟩ hC.1 (by omega) ⟨Nat.zero_le _, Nat.zero_le _⟩ (by decide) (c_X1_splitTape (by omega) hE hC hn hn6 (fun J0 T sX tF => ?_))
  refine aw_aload_n dX1_compiled_4 rfl rfl ?_
  refine aw_iconst (v := 0) dX1_compiled_5 (by decide) ?_
  refine aw_pi dX1_compiled_6 fw_X1_34 (ww_X1_34 _) hC.1 rfl ?_
  refine aw_aload_n dX1_compiled_9 rfl rfl ?_
  refine aw_iconst (v := 0) dX1_compiled_10 (by decide) ?_
  refine aw_pi dX1_compiled_11 fw_X1_37 (ww_X1_37 _) hC.1 rfl ?_
  refine aw_aload_n dX1_compiled_14 rfl rfl ?_
  refine aw_iconst (v := 4) dX1_compiled_15 (by decide) ?_
  have tT : TkP (iU (iU J0 4 6 0) 4 8 0) (SS (I 5) n) (VV (I 5) n) T := TkP.sam ⟨fun j hj => ⟨(tF.1 j hj).1, (tF.1 j hj).2.1⟩, tF.2.1, by have := tF.2.2.2.2.2; omega, ⟨tF.2.2.2.2.1, (tape_ok (I 5) n).2⟩⟩ (fun a j h g => by rw [iU_at (by omega), iU_at (by omega)])
  have hV := tT.2.2.2
  have hT6 := tT.2.2.1
  have p0 : PS (iU (iU J0 4 6 0) 4 8 0) 0 [] := ⟨by rw [iU_at (by omega), iU_same]; rfl, iU_same, trivial⟩
  have s00 : SaC I (iU (iU J0 4 6 0) 4 8 0) := (sX.c.u 6 0 (by decide)).u 8 0 (by decide)
  have r5 : ∀ J, SaP (iU (iU J0 4 6 0) 4 8 0) J → ∀ k, k ≤ T → J 8 k = nI (plF (I 5) n k) := fun J s k hk => by
    rw [s 8 k (by omega) (by omega), iU_at (by omega), iU_at (by omega)]
    rcases Nat.lt_or_ge k T with g | g
    · exact (tF.1 k g).2.2
    · rw [show k = T by omega]; exact tF.2.2.1
  refine aw_V1 dX1_compiled_16 cw_X1_40 ⟨_, _, rfl⟩ hC.1 (by omega) ⟨Nat.zero_le _, Nat.zero_le _⟩ (by decide) (c_X1_clause (key := 4) (by decide) (by decide) (d - 1) _ _ _ _ 0 [] (by omega) hC tT p0 (Nat.le_refl _) (Nat.zero_le _) ⟨fun k1 c1 v1 e1 J1 s1 p1 => ?_, fun k1 e1 J1 s1 p1 => ?_⟩)
  · have o1 := cl_ok2 (key := 4) hV (show 0 ≤ T by omega) (by decide)
    rw [e1] at o1
    have o1' := o1.2 c1 v1 rfl
    simp only at o1 o1'
    refine aw_istore_n (ls' := [_, _, _, _]) dX1_compiled_19 (by decide) rfl rfl ?_
    refine aw_aload_n dX1_compiled_20 rfl rfl ?_
    refine aw_gi dX1_compiled_21 fw_X1_37 hC.1 ?_
    rw [p1.2.1]
    refine aw_istore_n (ls' := [_, _, _, _]) dX1_compiled_24 (by decide) rfl rfl ?_
    refine aw_iload_n dX1_compiled_25 rfl ?_
    refine aw_if_eq (tgt := 41) dX1_compiled_26 (by decide) (fun zz => absurd zz (by decide)) (fun _ => ?_)
    refine aw_aload_n dX1_compiled_29 rfl rfl ?_
    refine aw_iconst (v := 5) dX1_compiled_30 (by decide) ?_
    refine aw_V1 dX1_compiled_31 cw_X1_40 ⟨_, _, rfl⟩ hC.1 (by omega) ⟨Nat.zero_le _, Nat.zero_le _⟩ (by decide) (c_X1_clause (key := 5) (by decide) (by decide) (d - 1) _ _ _ _ k1 ([] ++ c1) (by omega) hC (tT.sam s1) p1 (by simp only [List.nil_append]; omega) o1.1 ⟨fun k2 c2 v2 e2 J2 s2 p2 => ?_, fun k2 e2 J2 s2 p2 => ?_⟩)
    · have o2 := cl_ok2 (key := 5) hV (show k1 ≤ T by omega) (by decide)
      rw [e2] at o2
      have o2' := o2.2 c2 v2 rfl
      simp only at o2 o2'
      refine aw_if_eq (tgt := 41) dX1_compiled_34 (by decide) (fun zz => absurd zz (by decide)) (fun _ => ?_)
      refine aw_iconst (v := 1) dX1_compiled_37 (by decide) ?_
      refine aw_goto (tgt := 42) dX1_compiled_38 (by decide) ?_
      refine aw_istore_n (ls' := [_, _, _, _]) dX1_compiled_42 (by decide) rfl rfl ?_
      refine aw_aload_n dX1_compiled_43 rfl rfl ?_
      refine aw_gi dX1_compiled_44 fw_X1_37 hC.1 ?_
      rw [p2.2.1]
      refine aw_istore_n (ls' := [_, _, _, _]) dX1_compiled_47 (by decide) rfl rfl ?_
      refine aw_iload_n dX1_compiled_48 rfl ?_
      refine aw_if_eq (tgt := 77) dX1_compiled_49 (by decide) (fun zz => absurd zz (by decide)) (fun _ => ?_)
      refine aw_aload_n dX1_compiled_52 rfl rfl ?_
      refine aw_bipush (v := 6) dX1_compiled_53 (by decide) ?_
      refine aw_V1 dX1_compiled_55 cw_X1_40 ⟨_, _, rfl⟩ hC.1 (by omega) ⟨Nat.zero_le _, Nat.zero_le _⟩ (by decide) (c_X1_clause (key := 6) (by decide) (by decide) (d - 1) _ _ _ _ k2 ([] ++ c1 ++ c2) (by omega) hC (tT.sam (s1.tr s2)) p2 (by simp only [List.nil_append, List.length_append]; omega) o2.1 ⟨fun k3 c3 v3 e3 J3 s3 p3 => ?_, fun k3 e3 J3 s3 p3 => ?_⟩)
      · have o3 := cl_ok2 (key := 6) hV (show k2 ≤ T by omega) (by decide)
        rw [e3] at o3
        have o3' := o3.2 c3 v3 rfl
        simp only at o3 o3'
        refine aw_if_eq (tgt := 77) dX1_compiled_58 (by decide) (fun zz => absurd zz (by decide)) (fun _ => ?_)
        refine aw_aload_n dX1_compiled_61 rfl rfl ?_
        refine aw_gr dX1_compiled_62 fw_X1_15 hC.1 hC.2.2.1 ?_
        refine aw_aload_n dX1_compiled_65 rfl rfl ?_
        refine aw_gi dX1_compiled_66 fw_X1_34 hC.1 ?_
        refine aw_ia k3 dX1_compiled_69 hC.2.2.2.2.2.2.2.1 p3.1 (by omega) (by decide) ?_
        rw [(tT.sam ((s1.tr s2).tr s3)).s6 o3.1]
        refine aw_if_ne (tgt := 77) dX1_compiled_70 (by decide) (fun c70 => ?_) (fun c70 => ?_)
        · refine aw_iconst (v := 0) dX1_compiled_77 (by decide) ?_
          refine aw_istore_n (ls' := [_, _, _, _]) dX1_compiled_78 (by decide) rfl rfl ?_
          refine aw_iload_n dX1_compiled_79 rfl ?_
          refine aw_if_ne (tgt := 98) dX1_compiled_80 (by decide) (fun zz => absurd zz (by decide)) (fun _ => ?_)
          refine aw_aload_n dX1_compiled_83 rfl rfl ?_
          refine aw_aload_n dX1_compiled_84 rfl rfl ?_
          refine aw_gr dX1_compiled_85 fw_X1_21 hC.1 hC.2.2.2.2.1 ?_
          refine aw_aload_n dX1_compiled_88 rfl rfl ?_
          refine aw_gi dX1_compiled_89 fw_X1_34 hC.1 ?_
          refine aw_ia k3 dX1_compiled_92 hC.2.2.2.2.2.2.2.2.2.1 p3.1 (by omega) (by decide) ?_
          rw [r5 _ ((s1.tr s2).tr s3) k3 o3.1]
          refine aw_pi dX1_compiled_93 fw_X1_44 (ww_X1_44 _) hC.1 rfl ?_
          refine aw_null dX1_compiled_96 ?_
          refine aw_areturnN dX1_compiled_97 rfl (Or.inl ⟨_, rfl⟩) ?_
          refine hF k3 (by simp only [txR, e1, e2, e3]; rw [if_neg (fun w => c70 (by rw [w]; rfl))]) _ (((s00.tr s1.c).tr (s2.c.tr s3.c)).u 9 _ (by decide)) iU_same
        · refine aw_iconst (v := 1) dX1_compiled_73 (by decide) ?_
          refine aw_goto (tgt := 78) dX1_compiled_74 (by decide) ?_
          refine aw_istore_n (ls' := [_, _, _, _]) dX1_compiled_78 (by decide) rfl rfl ?_
          refine aw_iload_n dX1_compiled_79 rfl ?_
          refine aw_if_ne (tgt := 98) dX1_compiled_80 (by decide) (fun _ => ?_) (fun zz => absurd zz (by decide))
          have hs0 : SS (I 5) n k3 = 0 := (nI_eq (b := 0) (by have := (hV.2 k3).2.2; omega) (by decide)).mp c70
          have hz : 9 < zN Z := hC.2.2.2.2.2.2.2.2.2.2.1
          have hC1 : ScZ (zO Z 4) := hC.gro (Gro.o 4)
          have p3' : PS J3 k3 (c1 ++ c2 ++ c3) := p3
          have hl3 : (c1 ++ c2 ++ c3).length < 160 := by simp only [List.length_append]; omega
          refine aw_new dX1_compiled_98 nw_X1_47 (show 0 + 1 ≤ 2 by decide) (show 0 + 3 ≤ 163 by decide) ?_
          refine aw_dup dX1_compiled_101 rfl ?_
          refine aw_aload_n dX1_compiled_102 rfl rfl ?_
          refine aw_gr dX1_compiled_103 fw_X1_24 hC1.1 hC1.2.2.2.2.2.1 ?_
          refine aw_aload_n dX1_compiled_106 rfl rfl ?_
          refine aw_gi dX1_compiled_107 fw_X1_37 hC1.1 ?_
          rw [show rU J3 (zN Z) (fun _ => 0) 4 8 = nI (c1 ++ c2 ++ c3).length by simp only [rU, show ¬ (4 : Nat) = zN Z by omega, if_false]; exact p3'.2.1]
          refine aw_callS (As := [.ref 9, .int (nI (c1 ++ c2 ++ c3).length)]) dX1_compiled_110 cw_X1_49 rfl rfl (rm_ok (by omega)) (show 0 + 1 + 1 ≤ 2 ∧ 0 + 3 + 160 ≤ 163 by decide) (by simp [Value.category, psh]) (c_copyOf (d := d - 1) (by omega) hC1.2.2.2.2.2.2.2.2.2.2 (by decide) hl3 (fun J4 q1 q2 => ?_))
          refine aw_iload_n dX1_compiled_113 rfl ?_
          refine aw_iload_n dX1_compiled_114 rfl ?_
          refine aw_callI (kc' := 0) (ks' := 0) (As := [.ref (zN Z + 1), .int (nI ([] ++ c1).length), .int (nI ([] ++ c1 ++ c2).length)]) dX1_compiled_115 cw_X1_55 rfl rfl (rm_ok (by omega)) (show 0 + 1 + 1 + 0 ≤ 2 ∧ 0 + 3 + 160 + 0 ≤ 163 by decide) (by simp [Value.category, psh]) (c_X4_init (d := d - 1) (by omega) (zO_new.gro (Gro.a _)) ?_)
          refine aw_areturn (ty := .object "GroundsReadOut$Text") dX1_compiled_118 rfl (Or.inl ⟨_, rfl⟩) ?_
          have hnew : zN (zO Z 4) = zN Z + 1 := rfl
          refine hK k3 (c1, v1) (c2, v2) (c3, v3) (by simp only [txR, e1, e2, e3, hs0, if_true]) _ _ _ (fun a j ha h g => ?_) (((Gro.o 4).tr (Gro.a _)).pu (Or.inr (Nat.le_refl _))) rfl ?_ ?_ ?_ ?_ ?_ hl3 o1'.2 o2'.2 o3'.2
          · rw [iU_at (by omega), iU_at (by omega), q1 a (by rw [hnew]; omega)]
            simp only [rU, show ¬ a = zN Z by omega, if_false]
            exact ((s00.tr s1.c).tr (s2.c.tr s3.c)) a j h g
          · show pU (zP (zA (zO Z 4) _)) (zN Z) 0 _ 2 = zP Z 2
            funext j
            rw [pU, if_neg (by omega)]
            show (if 2 = zN Z then (fun _ => none) else zP Z 2) j = _
            rw [if_neg (by omega)]
          · refine ⟨(show ObjZ (zA (zO Z 4) (c1 ++ c2 ++ c3).length) (zN Z) 4 from zO_new.gro (Gro.a _)), ?_, (zA_new (Z := zO Z 4) (n := (c1 ++ c2 ++ c3).length))⟩
            show pU (zP (zA (zO Z 4) _)) (zN Z) 0 _ (zN Z) 0 = _
            rw [pU, if_pos ⟨rfl, rfl⟩]
          · rw [iU_at (by omega), iU_same]; rfl
          · rw [iU_same, List.length_append]; rfl
          · rw [show iU (iU J4 (zN Z) 1 _) (zN Z) 2 _ (zN Z + 1) = J4 (zN Z + 1) from funext fun j => by rw [iU_at (by omega), iU_at (by omega)]]
            refine AtS_get (f := J3 9) (c1 ++ c2 ++ c3) 0 (fun i hi => ?_) p3'.2.2
            rw [Nat.zero_add]
            have := q2 i hi
            rw [hnew] at this
            rw [this]
            simp only [rU, show ¬ (9 : Nat) = zN Z by omega, if_false]
      · have o3 := cl_ok2 (key := 6) hV (show k2 ≤ T by omega) (by decide)
        rw [e3] at o3
        simp only at o3
        refine aw_if_eq (tgt := 77) dX1_compiled_58 (by decide) (fun _ => ?_) (fun zz => absurd zz (by decide))
        refine aw_iconst (v := 0) dX1_compiled_77 (by decide) ?_
        refine aw_istore_n (ls' := [_, _, _, _]) dX1_compiled_78 (by decide) rfl rfl ?_
        refine aw_iload_n dX1_compiled_79 rfl ?_
        refine aw_if_ne (tgt := 98) dX1_compiled_80 (by decide) (fun zz => absurd zz (by decide)) (fun _ => ?_)
        refine aw_aload_n dX1_compiled_83 rfl rfl ?_
        refine aw_aload_n dX1_compiled_84 rfl rfl ?_
        refine aw_gr dX1_compiled_85 fw_X1_21 hC.1 hC.2.2.2.2.1 ?_
        refine aw_aload_n dX1_compiled_88 rfl rfl ?_
        refine aw_gi dX1_compiled_89 fw_X1_34 hC.1 ?_
        refine aw_ia k3 dX1_compiled_92 hC.2.2.2.2.2.2.2.2.2.1 p3 (by omega) (by decide) ?_
        rw [r5 _ ((s1.tr s2).tr s3) k3 o3.1]
        refine aw_pi dX1_compiled_93 fw_X1_44 (ww_X1_44 _) hC.1 rfl ?_
        refine aw_null dX1_compiled_96 ?_
        refine aw_areturnN dX1_compiled_97 rfl (Or.inl ⟨_, rfl⟩) ?_
        exact hF k3 (by simp only [txR, e1, e2, e3]) _ (((s00.tr s1.c).tr (s2.c.tr s3.c)).u 9 _ (by decide)) iU_same
    · have o2 := cl_ok2 (key := 5) hV (show k1 ≤ T by omega) (by decide)
      rw [e2] at o2
      simp only at o2
      refine aw_if_eq (tgt := 41) dX1_compiled_34 (by decide) (fun _ => ?_) (fun zz => absurd zz (by decide))
      refine aw_iconst (v := 0) dX1_compiled_41 (by decide) ?_
      refine aw_istore_n (ls' := [_, _, _, _]) dX1_compiled_42 (by decide) rfl rfl ?_
      refine aw_aload_n dX1_compiled_43 rfl rfl ?_
      refine aw_gi dX1_compiled_44 fw_X1_37 hC.1 ?_
      refine aw_istore_n (ls' := [_, _, _, _]) dX1_compiled_47 (by decide) rfl rfl ?_
      refine aw_iload_n dX1_compiled_48 rfl ?_
      refine aw_if_eq (tgt := 77) dX1_compiled_49 (by decide) (fun _ => ?_) (fun zz => absurd zz (by decide))
      refine aw_iconst (v := 0) dX1_compiled_77 (by decide) ?_
      refine aw_istore_n (ls' := [_, _, _, _]) dX1_compiled_78 (by decide) rfl rfl ?_
      refine aw_iload_n dX1_compiled_79 rfl ?_
      refine aw_if_ne (tgt := 98) dX1_compiled_80 (by decide) (fun zz => absurd zz (by decide)) (fun _ => ?_)
      refine aw_aload_n dX1_compiled_83 rfl rfl ?_
      refine aw_aload_n dX1_compiled_84 rfl rfl ?_
      refine aw_gr dX1_compiled_85 fw_X1_21 hC.1 hC.2.2.2.2.1 ?_
      refine aw_aload_n dX1_compiled_88 rfl rfl ?_
      refine aw_gi dX1_compiled_89 fw_X1_34 hC.1 ?_
      refine aw_ia k2 dX1_compiled_92 hC.2.2.2.2.2.2.2.2.2.1 p2 (by omega) (by decide) ?_
      rw [r5 _ (s1.tr s2) k2 o2.1]
      refine aw_pi dX1_compiled_93 fw_X1_44 (ww_X1_44 _) hC.1 rfl ?_
      refine aw_null dX1_compiled_96 ?_
      refine aw_areturnN dX1_compiled_97 rfl (Or.inl ⟨_, rfl⟩) ?_
      exact hF k2 (by simp only [txR, e1, e2]) _ (((s00.tr s1.c).tr s2.c).u 9 _ (by decide)) iU_same
  · have o1 := cl_ok2 (key := 4) hV (show 0 ≤ T by omega) (by decide)
    rw [e1] at o1
    simp only at o1
    refine aw_istore_n (ls' := [_, _, _, _]) dX1_compiled_19 (by decide) rfl rfl ?_
    refine aw_aload_n dX1_compiled_20 rfl rfl ?_
    refine aw_gi dX1_compiled_21 fw_X1_37 hC.1 ?_
    refine aw_istore_n (ls' := [_, _, _, _]) dX1_compiled_24 (by decide) rfl rfl ?_
    refine aw_iload_n dX1_compiled_25 rfl ?_
    refine aw_if_eq (tgt := 41) dX1_compiled_26 (by decide) (fun _ => ?_) (fun zz => absurd zz (by decide))
    refine aw_iconst (v := 0) dX1_compiled_41 (by decide) ?_
    refine aw_istore_n (ls' := [_, _, _, _]) dX1_compiled_42 (by decide) rfl rfl ?_
    refine aw_aload_n dX1_compiled_43 rfl rfl ?_
    refine aw_gi dX1_compiled_44 fw_X1_37 hC.1 ?_
    refine aw_istore_n (ls' := [_, _, _, _]) dX1_compiled_47 (by decide) rfl rfl ?_
    refine aw_iload_n dX1_compiled_48 rfl ?_
    refine aw_if_eq (tgt := 77) dX1_compiled_49 (by decide) (fun _ => ?_) (fun zz => absurd zz (by decide))
    refine aw_iconst (v := 0) dX1_compiled_77 (by decide) ?_
    refine aw_istore_n (ls' := [_, _, _, _]) dX1_compiled_78 (by decide) rfl rfl ?_
    refine aw_iload_n dX1_compiled_79 rfl ?_
    refine aw_if_ne (tgt := 98) dX1_compiled_80 (by decide) (fun zz => absurd zz (by decide)) (fun _ => ?_)
    refine aw_aload_n dX1_compiled_83 rfl rfl ?_
    refine aw_aload_n dX1_compiled_84 rfl rfl ?_
    refine aw_gr dX1_compiled_85 fw_X1_21 hC.1 hC.2.2.2.2.1 ?_
    refine aw_aload_n dX1_compiled_88 rfl rfl ?_
    refine aw_gi dX1_compiled_89 fw_X1_34 hC.1 ?_
    refine aw_ia k1 dX1_compiled_92 hC.2.2.2.2.2.2.2.2.2.1 p1 (by omega) (by decide) ?_
    rw [r5 _ s1 k1 o1.1]
    refine aw_pi dX1_compiled_93 fw_X1_44 (ww_X1_44 _) hC.1 rfl ?_
    refine aw_null dX1_compiled_96 ?_
    refine aw_areturnN dX1_compiled_97 rfl (Or.inl ⟨_, rfl⟩) ?_
    exact hF k1 (by simp only [txR, e1]) _ ((s00.tr s1.c).u 9 _ (by decide)) iU_same
theorem c_X3_isFull {E : Ev} {d : Nat} {I : Mi} {L : Ml} {Z : Mz} {Q : Po}  {n : Nat} (hS : ShZ Z) (hn : I 1 2 = nI n) (hn6 : n ≤ 6) (hT : (n = 6) → Q (some (.int 1)) I L Z) (hF : ¬ (n = 6) → Q (some (.int 0)) I L Z) : AC E yX3_isFull cX3_isFull 1 (some .boolean) d 0 0 [.ref 1] I L Z Q := by
  refine ac_go (ls := [some (.ref 1)]) (by decide +kernel) (Nat.le_of_ble_eq_true rfl) rfl ?_
  have hlt : I 1 2 < 6 ↔ n < 6 := by rw [hn]; exact ⟨fun w => Nat.not_le.mp (fun g => nI_nlt (a := n) (b := 6) g (by omega) w), fun w => nI_lt (b := 6) w (by decide)⟩
  refine aw_aload_n dX3_isFull_0 rfl rfl ?_
  refine aw_gi dX3_isFull_1 fw_X3_21 hS.1 ?_
  refine aw_bipush (v := 6) dX3_isFull_4 (by decide) ?_
  refine aw_icmp_lt (tgt := 13) dX3_isFull_6 (by decide) (fun c6 => ?_) (fun c6 => ?_)
  · refine aw_iconst (v := 0) dX3_isFull_13 (by decide) ?_
    refine aw_ireturn (ty := .boolean) dX3_isFull_14 rfl (by decide) ?_
    exact hF (by have := hlt.mp c6; omega)
  · refine aw_iconst (v := 1) dX3_isFull_9 (by decide) ?_
    refine aw_goto (tgt := 14) dX3_isFull_10 (by decide) ?_
    refine aw_ireturn (ty := .boolean) dX3_isFull_14 rfl (by decide) ?_
    exact hT (by have : ¬ n < 6 := fun w => c6 (hlt.mpr w); omega)
theorem c_X3_keep {E : Ev} {d : Nat} {I : Mi} {L : Ml} {Z : Mz} {Q : Po} {a n : Nat} (hd : 1 ≤ d) (hS : ShZ Z) (h10 : zK Z 2 = 10) (hn : I 1 2 = nI n) (hn6 : n < 6) (hA : ObjZ Z a 4) (hQ : Q (some (.int (nI n))) (iU I 1 2 (nI (n + 1))) L (pU (zP Z) 2 n (some a), Z.2)) : AC E yX3_keep cX3_keep 2 (some .int) d 0 0 [.ref 1, .ref a] I L Z Q := by
  refine ac_go (ls := [some (.ref 1), some (.ref a)]) (by decide +kernel) (Nat.le_of_ble_eq_true rfl) rfl ?_
  refine aw_aload_n dX3_keep_0 rfl rfl ?_
  refine aw_V0 dX3_keep_1 cw_X3_25 ⟨_, _, rfl⟩ hS.1 (by omega) ⟨Nat.le_refl _, Nat.le_refl _⟩ (by decide) (c_X3_isFull (n := n) hS hn (by omega) (fun zz => absurd zz (show ¬ n = 6 by omega)) (fun c1 => ?_))
  refine aw_if_ne (tgt := 11) dX3_keep_4 (by decide) (fun zz => absurd zz (by decide)) (fun _ => ?_)
  refine aw_aload_n dX3_keep_7 rfl rfl ?_
  refine aw_ifnonnull (tgt := 14) dX3_keep_8 (by decide) ?_
  refine aw_aload_n dX3_keep_14 rfl rfl ?_
  refine aw_gr dX3_keep_15 fw_X3_11 hS.1 hS.2.1 ?_
  refine aw_aload_n dX3_keep_18 rfl rfl ?_
  refine aw_gi dX3_keep_19 fw_X3_21 hS.1 ?_
  refine aw_aload_n dX3_keep_22 rfl rfl ?_
  refine aw_aast dX3_keep_23 hS.2.2.2.2.1 (Or.inr ⟨h10, rfl⟩) hA.1 hA.2 (by rw [hn, hS.2.2.2.2.2.2]; exact vp_in_nI hn6 (by decide)) ?_
  rw [hn, nI_clamp (by omega)]
  have hO : ObjZ (pU (zP Z) 2 n (some a), Z.2) 1 3 := hS.1
  refine aw_aload_n dX3_keep_24 rfl rfl ?_
  refine aw_dup dX3_keep_25 rfl ?_
  refine aw_gi dX3_keep_26 fw_X3_21 hO ?_
  refine aw_iconst (v := 1) dX3_keep_29 (by decide) ?_
  refine aw_iadd dX3_keep_30 ?_
  rw [hn, nI_1]
  refine aw_pi dX3_keep_31 fw_X3_21 (ww_X3_21 _) hO rfl ?_
  refine aw_aload_n dX3_keep_34 rfl rfl ?_
  refine aw_gi dX3_keep_35 fw_X3_21 hO ?_
  refine aw_iconst (v := 1) dX3_keep_38 (by decide) ?_
  refine aw_isub dX3_keep_39 ?_
  rw [iU_same, show nI (n + 1) - 1 = nI n from nI_sub (a := n + 1) (b := 1) (by omega)]
  exact aw_ireturn (ty := .int) dX3_keep_40 rfl rfl hQ
theorem c_X5_text {E : Ev} {d : Nat} {I : Mi} {L : Ml} {Z : Mz} {Q : Po} {N : Nat} {xs : Nat → Int32} {M n : Nat} (hd : 51 ≤ d) (hE : EXT E N xs) (hG : GZ Z) (h10 : zK Z 2 = 10) (hM : I 1 2 = nI M) (hM6 : M ≤ 6) (hn : I 4 1 = nI n) (hn6 : n ≤ 160) (hFl : M = 6 → Q (some (.int (-4))) I L Z) (hF : M < 6 → ∀ k', txR (SS (I 5) n) (VV (I 5) n) = (k', none) → ∀ J : Mi, SaC I J → Q (some (.int (-100 - nI (plF (I 5) n k')))) (iU J 4 1 0) L Z) (hK : M < 6 → ∀ k' x1 x2 x3, txR (SS (I 5) n) (VV (I 5) n) = (k', some (x1, x2, x3)) → ∀ (J : Mi) (K : Ml) (Y : Mz), (∀ a j, a < zN Z → ¬ (a = 4 ∧ 5 ≤ j) → (a < 6 ∨ 9 < a) → J a j = I a j) → Gro Z Y → zN Y = zN Z + 2 → zP Y 2 = zP Z 2 → TxZ Y (zN Z) (zN Z + 1) (x1.1 ++ x2.1 ++ x3.1).length → J (zN Z) 1 = nI x1.1.length → J (zN Z) 2 = nI (x1.1.length + x2.1.length) → AtS (J (zN Z + 1)) 0 (x1.1 ++ x2.1 ++ x3.1) → (x1.1 ++ x2.1 ++ x3.1).length < 160 → EvP x1.1 x1.2 → EvP x2.1 x2.2 → EvP x3.1 x3.2 → Q (some (.int (nI M))) (iU (iU J 4 1 0) 1 2 (nI (M + 1))) K (pU (zP Y) 2 M (some (zN Z)), Y.2)) : AC E yX5_text cX5_text 2 (some .int) d 2 163 [.ref 0] I L Z Q := by
  have hS : ShZ Z := hG.2.2.2.2.2.2.2.2.2.2.2.2.1
  have hC : ScZ Z := hG.2.2.2.2.2.2.2.2.2.2.2.2.2
  refine ac_go (ls := [some (.ref 0), none]) (by decide +kernel) (Nat.le_of_ble_eq_true rfl) rfl ?_
  refine aw_aload_n dX5_text_0 rfl rfl ?_
  refine aw_gr dX5_text_1 fw_X5_10 hG.1 hG.2.1 ?_
  refine aw_V0 dX5_text_4 cw_X5_140 ⟨_, _, rfl⟩ hS.1 (by omega) ⟨Nat.zero_le _, Nat.zero_le _⟩ (by decide) (c_X3_isFull (n := M) hS hM hM6 (fun c4 => ?_) (fun c4 => ?_))
  · refine aw_if_eq (tgt := 13) dX5_text_7 (by decide) (fun zz => absurd zz (by decide)) (fun _ => ?_)
    refine aw_bipush (v := -4) dX5_text_10 (by decide) ?_
    exact aw_ireturn (ty := .int) dX5_text_12 rfl rfl (hFl c4)
  have hM5 : M < 6 := by omega
  refine aw_if_eq (tgt := 13) dX5_text_7 (by decide) (fun _ => ?_) (fun zz => absurd rfl zz)
  refine aw_aload_n dX5_text_13 rfl rfl ?_
  refine aw_gr dX5_text_14 fw_X5_19 hG.1 hG.2.2.1 ?_
  refine aw_callV (As := []) dX5_text_17 cw_X5_61 ⟨_, _, rfl⟩ hC.1.1 hC.1.2 rfl rfl (rm_ok (by omega)) (show 0 + 2 ≤ 2 ∧ 0 + 163 ≤ 163 by decide) (by decide) (c_X1_compiled (d := d - 1) (by omega) hE hC hn hn6 (fun k' e J s e9 => ?_) (fun k' x1 x2 x3 e J K Y fr gr en e2 tx j1 j2 at3 l3 v1 v2 v3 => ?_))
  · refine aw_astore_n (ls' := [_, _]) dX5_text_20 (by decide) rfl rfl rfl ?_
    refine aw_aload_n dX5_text_21 rfl rfl ?_
    refine aw_gr dX5_text_22 fw_X5_19 hG.1 hG.2.2.1 ?_
    refine aw_V0 dX5_text_25 cw_X5_69 ⟨_, _, rfl⟩ hC.1 (by omega) ⟨Nat.le_refl _, Nat.le_refl _⟩ (by decide) (c_X1_clear hC ?_)
    refine aw_aload_n dX5_text_28 rfl rfl ?_
    refine aw_ifnonnullN dX5_text_29 ?_
    refine aw_bipush (v := -100) dX5_text_32 (by decide) ?_
    refine aw_aload_n dX5_text_34 rfl rfl ?_
    refine aw_gr dX5_text_35 fw_X5_19 hG.1 hG.2.2.1 ?_
    refine aw_gi dX5_text_38 fw_X5_144 hC.1 ?_
    refine aw_isub dX5_text_41 ?_
    rw [iU_at (by omega), e9]
    exact aw_ireturn (ty := .int) dX5_text_42 rfl rfl (hF hM5 k' e J s)
  · have hG2 := hG.gro gr
    have hS2 : ShZ Y := hG2.2.2.2.2.2.2.2.2.2.2.2.2.1
    have hC2 : ScZ Y := hG2.2.2.2.2.2.2.2.2.2.2.2.2.2
    have hz : 9 < zN Z := hC.2.2.2.2.2.2.2.2.2.2.1
    refine aw_astore_n (ls' := [_, _]) dX5_text_20 (by decide) rfl rfl rfl ?_
    refine aw_aload_n dX5_text_21 rfl rfl ?_
    refine aw_gr dX5_text_22 fw_X5_19 hG2.1 hG2.2.2.1 ?_
    refine aw_V0 dX5_text_25 cw_X5_69 ⟨_, _, rfl⟩ hC2.1 (by omega) ⟨Nat.le_refl _, Nat.le_refl _⟩ (by decide) (c_X1_clear hC2 ?_)
    refine aw_aload_n dX5_text_28 rfl rfl ?_
    refine aw_ifnonnull (tgt := 43) dX5_text_29 (by decide) ?_
    refine aw_aload_n dX5_text_43 rfl rfl ?_
    refine aw_gr dX5_text_44 fw_X5_10 hG2.1 hG2.2.1 ?_
    refine aw_aload_n dX5_text_47 rfl rfl ?_
    refine aw_V1 dX5_text_48 cw_X5_65 ⟨_, _, rfl⟩ hS2.1 (by omega) ⟨Nat.le_refl _, Nat.le_refl _⟩ (by decide) (c_X3_keep (n := M) (by omega) hS2 (by rw [(gr.2 2 hS.2.2.2.2.1).2.1]; exact h10) (by rw [iU_at (by omega), fr 1 2 (by omega) (by omega) (by omega)]; exact hM) hM5 tx.1 ?_)
    exact aw_ireturn (ty := .int) dX5_text_51 rfl rfl (hK hM5 k' x1 x2 x3 e J K Y fr gr en e2 tx j1 j2 at3 l3 v1 v2 v3)

/-! ===== pairs: sees, alike, read, film ===== -/
def RbE (I J : Mi) : Prop := J 52 = I 52 ∧ J 54 = I 54 ∧ J 55 = I 55 ∧ J 48 8 = I 48 8
theorem SamH.rbe {I J : Mi} (s : SamH 10 I J) : RbE I J := ⟨s 52 (by decide) (by decide), s 54 (by decide) (by decide), s 55 (by decide) (by decide), by rw [s 48 (by decide) (by decide)]⟩
theorem SamF.rbe {I J : Mi} {r : Nat} (s : SamF 10 r I J) : RbE I J := ⟨s.1 52 (by decide) (by decide) (by decide) (by decide), s.1 54 (by decide) (by decide) (by decide) (by decide), s.1 55 (by decide) (by decide) (by decide) (by decide), by rw [s.1 48 (by decide) (by decide) (by decide) (by decide)]⟩
theorem ThX.rbe {I J : Mi} (s : ThX I J) : RbE I J := ⟨s 52 (by decide) (by decide) (by decide), s 54 (by decide) (by decide) (by decide), s 55 (by decide) (by decide) (by decide), by rw [s 48 (by decide) (by decide) (by decide)]⟩
theorem ThS.rbe {I J : Mi} (s : ThS I J) : RbE I J := ⟨s 52 (by decide) (by decide), s 54 (by decide) (by decide), s 55 (by decide) (by decide), by rw [s 48 (by decide) (by decide)]⟩
theorem RbE.rf {I : Mi} : RbE I I := ⟨rfl, rfl, rfl, rfl⟩
section PRC
variable {I J : Mi} {Z : Mz} {n m r ru N k : Nat} {tA qA mA aA bA : Nat → Nat} {WA : Nat → Wt}
theorem INV.cuJ (h : INV I Z n m r ru N k tA qA mA aA bA WA) (e : RbE I J) {c : Nat} (hc : c < n) : J 52 (2 * c) = I 11 c ∧ J 52 (2 * c + 1) = I 12 c := by rw [e.1]; exact (h.cu hc).1
theorem INV.reJ (h : INV I Z n m r ru N k tA qA mA aA bA WA) (e : RbE I J) {p : Nat} (hp : p < m) : J 54 p = I 15 p ∧ J 55 (2 * p) = I 16 p ∧ J 55 (2 * p + 1) = I 17 p := by rw [e.2.1, e.2.2.1]; exact (h.re hp).1
theorem INV.hoJ (h : INV I Z n m r ru N k tA qA mA aA bA WA) (e : RbE I J) : J 48 8 = I 10 2 := e.2.2.2.trans h.eM.2.1
theorem INV.rbJ (h : INV I Z n m r ru N k tA qA mA aA bA WA) (e : RbE I J) {p c : Nat} (hp : p < m) (hc : c < n) : rbV I 10 (qA ru) (aA ru) (bA ru) (mA ru) p c = rbM J (WA ru) p c := rb_gen h.tv (h.cuJ e hc).1 (h.cuJ e hc).2 (h.reJ e hp).1 (h.reJ e hp).2.1 (h.reJ e hp).2.2 (h.hoJ e)
theorem INV.stJ (h : INV I Z n m r ru N k tA qA mA aA bA WA) (e : RbE I J) {p : Nat} (hp : p < m) : sdP I 10 (qA ru) (aA ru) (bA ru) (mA ru) p ↔ sdM J (WA ru) p := sd_gen h.tv (h.reJ e hp).1 (h.reJ e hp).2.1 (h.reJ e hp).2.2 (h.hoJ e)
theorem INV.rlJ (h : INV I Z n m r ru N k tA qA mA aA bA WA) (e : RbE I J) {w p c : Nat} (hw : w < 3) (hp : p < m) (hc : c < n) : rlC I 10 (qA ru) (aA ru) (bA ru) (mA ru) w p c = rlM J (WA ru) w p c := rl_gen (fun nm => h.tv w nm hw) (h.cuJ e hc).1 (h.cuJ e hc).2 (h.reJ e hp).2.1 (h.reJ e hp).2.2 (h.hoJ e)
end PRC
theorem tb_xor (x y : Int32) (i : Nat) : tb (x ^^^ y) i = (tb x i ^^ tb y i) := by unfold tb; rw [Int32.toBitVec_xor, BitVec.getLsbD_xor]
theorem sm_xor {x y : Int32} (hx : sm x) (hy : sm y) : sm (x ^^^ y) := fun i hi => by rw [tb_xor, hx i hi, hy i hi]; rfl
theorem sm_4095 : sm 4095 := sm_of ⟨4095, by decide, rfl⟩
theorem sm_0 : sm 0 := sm_of ⟨0, by decide, rfl⟩
theorem sm_tu (x b : Int32) : sm (tuV x b) := by unfold tuV; exact sm_and sm_4095
theorem and1 (y : Int32) : y &&& 1 = 0 ∨ y &&& 1 = 1 := by
  obtain ⟨v, hv, e⟩ := pk_andE y (m := 1) 1 (by decide)
  rw [e]
  have : v = 0 ∨ v = 1 := by omega
  rcases this with rfl | rfl
  · exact Or.inl rfl
  · exact Or.inr rfl
theorem mi_sh : ∀ k, k < 12 → ((0 : Int32) <<< ((11 - nI k) &&& 31) = 0 ∧ (1 : Int32) <<< ((11 - nI k) &&& 31) = nI (2 ^ (11 - k))) := by decide +kernel
theorem sm_mi (x : Int32) : ∀ (n k : Nat) (a : Int32), k + n ≤ 12 → sm a → sm (miF x n k a) := by
  intro n
  induction n with
  | zero => intro k a _ h; exact h
  | succ n ih =>
    intro k a hk h
    simp only [miF]
    refine ih (k + 1) _ (by omega) (sm_or h ?_)
    obtain ⟨e0, e1⟩ := mi_sh k (by omega)
    rcases and1 (x >>> (nI k &&& 31)) with e | e
    · rw [e, e0]; exact sm_0
    · rw [e, e1]; exact sm_of ⟨2 ^ (11 - k), Nat.lt_of_lt_of_le (Nat.pow_lt_pow_right (by decide) (show 11 - k < 12 by omega)) (by decide), rfl⟩
theorem sm_se {k nu x v : Int32} (hx : sm x) (hn : Rg nu 9) : sm (seV k nu x v) := by
  have hb : sm ((1 : Int32) <<< (nu &&& 31)) := by
    obtain ⟨q, hq, e⟩ := hn
    exact sm_one ⟨q, by omega, e⟩
  unfold seV
  split
  · exact sm_tu _ _
  split
  · exact sm_mi _ 12 0 0 (by decide) sm_0
  split
  · exact sm_xor (sm_tu _ _) hb
  split
  · exact sm_mi _ 12 0 0 (by decide) sm_0
  split
  · exact sm_xor (sm_tu _ _) hb
  · exact hx
theorem and_dif (a b : Int32) : (a &&& (b ^^^ -1)) &&& b = 0 := by
  refine tb_ext fun i hi => ?_
  rw [tb_and, tb_and, tb_not b hi, tb_zero]
  cases tb a i <;> cases tb b i <;> rfl
section PRD
variable {I J : Mi} {Z : Mz} {n m r ru N k : Nat} {tA qA mA aA bA : Nat → Nat} {WA : Nat → Wt}
theorem INV.rbS (h : INV I Z n m r ru N k tA qA mA aA bA WA) {p c : Nat} (hp : p < m) (hc : c < n) : S12 (rbV I 10 (qA ru) (aA ru) (bA ru) (mA ru) p c) ∧ rbV I 10 (qA ru) (aA ru) (bA ru) (mA ru) p c &&& (1 <<< (I 12 c &&& 31)) = 0 := by
  unfold rbV
  exact ⟨of_sm (sm_and (sm_and (sm_se (sm_of (h.cu hc).2.1) (h.re hp).2.2.1))), and_dif _ _⟩
end PRD
theorem pr_sees {E : Ev} {I : Mi} {L : Ml} {Z : Mz} {Q : Po} {x z w : Int32} (hI : GI I Z) (H : ∀ (rv : Int32) (I1 : Mi) (L1 : Ml), MD E yX6_sees cX6_sees 4 (some .int) [.ref 48, .int x, .int z, .int w] (some (.int rv)) I1 L1 Z → Q (some (.int rv)) I1 L1 Z) : AC E yX5_sees cX5_sees 4 (some .int) 60 0 0 [.ref 0, .int x, .int z, .int w] I L Z Q := by
  obtain ⟨n, m, r, ru, N, k, tA, qA, mA, aA, bA, WA, h⟩ := hI
  have hG : GZ Z := h.1.1
  have hM : MZ Z := h.1.2.1
  have h6 := h.n6
  by_cases hx : ¬ w < 0 ∧ ¬ 2 < w
  · obtain ⟨v, hv, rfl⟩ := in_rng (M := 2) (n := 2) rfl (by decide) hx
    match v, hv with
    | 0, _ =>
      refine c_X5_sees0 (m := m) (by decide) hG h.rd h.cC.2.1 h6.2.1 (fun hb => H _ _ _ fun Q2 K => c_X6_sees0 (by decide) hM h.rdm (fun _ => K _ _ _ h.gi) (fun p c hp hc e1 e2 => absurd ⟨⟨p, hp, e1⟩, c, hc, e2⟩ hb)) (fun p c hp hc e1 e2 rv I9 s9 er5 => H _ _ _ fun Q2 K => ?_)
      have h9 := h.samH s9
      refine c_X6_sees0 (by decide) hM h9.rdm (fun hb => absurd ⟨⟨p, hp, e1⟩, c, hc, e2⟩ hb) (fun p2 c2 hp2 hc2 f1 f2 rv2 J2 L2 s2 er => ?_)
      have ep := nI_two (by omega) (by omega) e1 f1
      have ec := nI_two (by omega) (by omega) e2 f2
      subst ep; subst ec
      have ev : rv2 = rv := by rw [er, (h.reJ s9.rbe hp).1, (h.reJ s9.rbe hp).2.1, (h.cuJ s9.rbe hc).1, ← h.rlJ s9.rbe (by decide) hp hc, ← er5]
      rw [ev]
      exact K _ _ _ (h9.saM s2).gi
    | 1, _ =>
      refine c_X5_sees1 (m := m) (by decide) hG h.rd h.cC.2.1 h6.2.1 (fun hb => H _ _ _ fun Q2 K => c_X6_sees1 (by decide) hM h.rdm (fun _ => K _ _ _ h.gi) (fun p c hp hc e1 e2 => absurd ⟨⟨p, hp, e1⟩, c, hc, e2⟩ hb)) (fun p c hp hc e1 e2 rv I9 s9 er5 => H _ _ _ fun Q2 K => ?_)
      have h9 := h.samH s9
      refine c_X6_sees1 (by decide) hM h9.rdm (fun hb => absurd ⟨⟨p, hp, e1⟩, c, hc, e2⟩ hb) (fun p2 c2 hp2 hc2 f1 f2 rv2 J2 L2 s2 er => ?_)
      have ep := nI_two (by omega) (by omega) e1 f1
      have ec := nI_two (by omega) (by omega) e2 f2
      subst ep; subst ec
      have ev : rv2 = rv := by rw [er, (h.reJ s9.rbe hp).1, (h.reJ s9.rbe hp).2.1, h.hoJ s9.rbe, ← h.rlJ s9.rbe (by decide) hp hc, ← er5]
      rw [ev]
      exact K _ _ _ (h9.saM s2).gi
    | 2, _ =>
      refine c_X5_sees2 (m := m) (by decide) hG h.rd h.cC.2.1 h6.2.1 (fun hb => H _ _ _ fun Q2 K => c_X6_sees2 (by decide) hM h.rdm (fun _ => K _ _ _ h.gi) (fun p c hp hc e1 e2 => absurd ⟨⟨p, hp, e1⟩, c, hc, e2⟩ hb)) (fun p c hp hc e1 e2 rv I9 s9 er5 => H _ _ _ fun Q2 K => ?_)
      have h9 := h.samH s9
      refine c_X6_sees2 (by decide) hM h9.rdm (fun hb => absurd ⟨⟨p, hp, e1⟩, c, hc, e2⟩ hb) (fun p2 c2 hp2 hc2 f1 f2 rv2 J2 L2 s2 er => ?_)
      have ep := nI_two (by omega) (by omega) e1 f1
      have ec := nI_two (by omega) (by omega) e2 f2
      subst ep; subst ec
      have ev : rv2 = rv := by rw [er, ← h.rbJ s9.rbe hp hc, ← er5]
      rw [ev]
      exact K _ _ _ (h9.saM s2).gi
    | v + 3, hv => omega
  · exact c_X5_seesX (by decide) hG hx (H _ _ _ fun Q2 K => c_X6_seesX (by decide) hM h.rdm hx (K _ _ _ h.gi))
theorem ak_con {f g f2 g2 : Nat → Int32} {N : Nat} (h : ∀ j, j < N → f j = f2 j ∧ g j = g2 j) : ∀ (n j : Nat) (a : Int32), j + n ≤ N → akF f g n j a = akF f2 g2 n j a := by
  intro n
  induction n with
  | zero => intro j a _; rfl
  | succ n ih =>
    intro j a hj
    simp only [akF]
    rw [(h j (by omega)).1, (h j (by omega)).2, ih (j + 1) _ (by omega)]
theorem pr_alike {E : Ev} {I : Mi} {L : Ml} {Z : Mz} {Q : Po} {x z : Int32} (hI : GI I Z) (H : ∀ (rv : Int32) (I1 : Mi) (L1 : Ml), MD E yX6_alike cX6_alike 5 (some .int) [.ref 48, .int x, .int z] (some (.int rv)) I1 L1 Z → Q (some (.int rv)) I1 L1 Z) : AC E yX5_alike cX5_alike 5 (some .int) 60 0 0 [.ref 0, .int x, .int z] I L Z Q := by
  obtain ⟨n, m, r, ru, N, k, tA, qA, mA, aA, bA, WA, h⟩ := hI
  have hG : GZ Z := h.1.1
  have hM : MZ Z := h.1.2.1
  have h6 := h.n6
  refine c_X5_alike (m := m) (r := 0) (by decide) hG h.rd h.cC.2.1 h6.2.1 (fun hb => H _ _ _ fun Q2 K => c_X6_alike (by decide) hM h.rdm (fun _ => K _ _ _ h.gi) (fun p p2 hp hp2 e1 e2 hne => absurd ⟨⟨p, hp, e1⟩, ⟨p2, hp2, e2⟩, hne⟩ hb)) (fun p p2 hp hp2 e1 e2 hne rv I9 s9 er5 => H _ _ _ fun Q2 K => ?_)
  have h9 := h.samH s9
  refine c_X6_alike (by decide) hM h9.rdm (fun hb => absurd ⟨⟨p, hp, e1⟩, ⟨p2, hp2, e2⟩, hne⟩ hb) (fun q q2 hq hq2 f1 f2 _ rv2 J2 L2 s2 er => ?_)
  have ep := nI_two (by omega) (by omega) e1 f1
  have ec := nI_two (by omega) (by omega) e2 f2
  subst ep; subst ec
  have ev : rv2 = rv := by
    rw [er, er5]
    exact (ak_con (N := n) (fun c hc => ⟨h.rbJ s9.rbe hp hc, h.rbJ s9.rbe hp2 hc⟩) n 0 0 (by omega)).symm
  rw [ev]
  exact K _ _ _ (h9.saM s2).gi

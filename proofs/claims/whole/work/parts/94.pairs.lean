/-! ===== pairs: best, why, next ===== -/
theorem toI_out {x M : Int32} {k : Int} (hM : M.toInt = k) (h : ¬ (¬ x < 0 ∧ ¬ M < x)) : x.toInt < 0 ∨ k < x.toInt := by
  by_cases g : x < 0
  · left
    have := Int32.lt_iff_toInt_lt.mp g
    simpa using this
  · right
    have g2 : M < x := Decidable.byContradiction fun w => h ⟨g, w⟩
    have := Int32.lt_iff_toInt_lt.mp g2
    rwa [hM] at this
theorem nc_con {f g : Nat → Int32} : ∀ (n j : Nat) (fo mo : Int32), (∀ i, j ≤ i → i < j + n → f i = g i) → ncF f n j fo mo = ncF g n j fo mo := by
  intro n
  induction n with
  | zero => intro j fo mo _; rfl
  | succ n ih =>
    intro j fo mo h
    simp only [ncF]
    rw [h j (by omega) (by omega), ih _ _ _ (fun i h1 h2 => h i (by omega) (by omega)), ih _ _ _ (fun i h1 h2 => h i (by omega) (by omega))]
theorem ct_con {f g : Nat → Int32} : ∀ (n j : Nat) (fo mo : Int32), (∀ i, j ≤ i → i < j + n → f i = g i) → ctF f n j fo mo = ctF g n j fo mo := by
  intro n
  induction n with
  | zero => intro j fo mo _; rfl
  | succ n ih =>
    intro j fo mo h
    simp only [ctF]
    rw [h j (by omega) (by omega), ih _ _ _ (fun i h1 h2 => h i (by omega) (by omega)), ih _ _ _ (fun i h1 h2 => h i (by omega) (by omega))]
theorem nc_ct {f : Nat → Int32} : ∀ (n j : Nat) (fo mo mm : Int32), j + n < 1000 → (∀ i, j ≤ i → i < j + n → ¬ f i ≤ -1) → (fo = -1 ∧ mo = -1) ∨ (¬ fo = -1 ∧ mm = mo) → (ncF f n j fo mm).1 = ctF f n j fo mo := by
  intro n
  induction n with
  | zero => intro j fo mo mm _ _ _; rfl
  | succ n ih =>
    intro j fo mo mm hj hp hc
    simp only [ncF, ctF]
    have hn : ¬ nI j = -1 := nI_ne1 (by omega)
    rcases hc with ⟨c1, c2⟩ | ⟨c1, c2⟩
    · rw [if_pos (Or.inl c1), c2, if_neg (hp j (by omega) (by omega))]
      exact ih _ _ _ _ (by omega) (fun i h1 h2 => hp i (by omega) (by omega)) (Or.inr ⟨hn, rfl⟩)
    · subst c2
      by_cases g : f j ≤ mm
      · rw [if_neg (fun w => w.elim c1 (fun q => q g)), if_pos g]
        exact ih _ _ _ _ (by omega) (fun i h1 h2 => hp i (by omega) (by omega)) (Or.inr ⟨c1, rfl⟩)
      · rw [if_pos (Or.inr g), if_neg g]
        exact ih _ _ _ _ (by omega) (fun i h1 h2 => hp i (by omega) (by omega)) (Or.inr ⟨hn, rfl⟩)
theorem nc_two {f : Nat → Int32} {M0 : Int32} : ∀ (n j : Nat) (fo mo : Int32), j + n < 1000 → ((fo = -1 ∧ mo = M0) ∨ ∃ c, c < 1000 ∧ fo = nI c ∧ mo = f c) → (((ncF f n j fo mo).1 = -1 ∧ (ncF f n j fo mo).2 = M0) ∨ ∃ c, c < 1000 ∧ (ncF f n j fo mo).1 = nI c ∧ (ncF f n j fo mo).2 = f c) := by
  intro n
  induction n with
  | zero => intro j fo mo _ h; exact h
  | succ n ih =>
    intro j fo mo hj h
    simp only [ncF]
    by_cases g : fo = -1 ∨ ¬ f j ≤ mo
    · rw [if_pos g]; exact ih _ _ _ (by omega) (Or.inr ⟨j, by omega, rfl, rfl⟩)
    · rw [if_neg g]; exact ih _ _ _ (by omega) h
theorem dgI_con {f g : Nat → Int32} {x : Int32} : ∀ (n j : Nat) (a : Int32), (∀ i, j ≤ i → i < j + n → f i = g i) → dgI f x n j a = dgI g x n j a := by
  intro n
  induction n with
  | zero => intro j a _; rfl
  | succ n ih =>
    intro j a h
    simp only [dgI]
    rw [h j (by omega) (by omega)]
    exact ih _ _ (fun i h1 h2 => h i (by omega) (by omega))
theorem dgO_con {f g : Nat → Int32} {N : Nat} (h : ∀ i, i < N → f i = g i) : ∀ (n i : Nat) (a : Int32), i + n = N → dgO f N n i a = dgO g N n i a := by
  intro n
  induction n with
  | zero => intro i a _; rfl
  | succ n ih =>
    intro i a hi
    simp only [dgO]
    rw [h i (by omega), dgI_con _ _ _ (fun k h1 h2 => h k (by omega))]
    exact ih _ _ (by omega)
theorem fw_pos {s b : Nat → Int32} {r : Nat} {x z sd : Int32} (hb : ∀ i, i < r → Bo (b i)) (hz : Bo z) (hs : S12 sd) : ¬ fwX s b r x z sd ≤ -1 := by
  unfold fwX
  obtain ⟨v, hv, ev⟩ := fo_S12 (s := fun k => if k = r then x else s k) (b := fun k => if k = r then z else b k) (r := r + 1) (lo := -1) (fun i hi => by
    by_cases e : i = r
    · simp only [e, if_true]; exact hz
    · simp only [e, if_false]; exact hb i (by omega)) hs
  rw [ev, bc_cn v hv]
  have := cn_le (nI v) 12
  have h13 : ∀ a, a < 13 → ¬ nI a ≤ -1 := by decide +kernel
  exact h13 _ (by omega)
section PRF
variable {I J : Mi} {Z : Mz} {n m r ru N k : Nat} {tA qA mA aA bA : Nat → Nat} {WA : Nat → Wt}
theorem INV.rsF (h : INV I Z n m r ru N k tA qA mA aA bA WA) (s : SamF 10 r I J) : RSM J r (I 13) (I 14) := by
  have h9 := h.samF s
  refine ⟨h9.cM.2.2.1, h.n6.2.2, fun i hi => ?_⟩
  rw [s.1 53 (by decide) (by decide) (by decide) (by decide)]
  exact (h.rs hi).1
theorem INV.fwJ (h : INV I Z n m r ru N k tA qA mA aA bA WA) (e : RbE I J) {p c : Nat} (hp : p < m) (hc : c < n) : fwX (I 13) (I 14) r (rbM J (WA ru) p c) (J 52 (2 * c + 1)) (I 10 1) = fwV I 10 (qA ru) (aA ru) (bA ru) (mA ru) r p c := by
  rw [← h.rbJ e hp hc, (h.cuJ e hc).2]
  rfl
theorem INV.cuB (h : INV I Z n m r ru N k tA qA mA aA bA WA) {c : Nat} (hc : c < n) : Bo (I 12 c) := (h.cu hc).2.2
theorem INV.toB (h : INV I Z n m r ru N k tA qA mA aA bA WA) : ∀ c, c < n → Bo (I 52 (2 * c + 1)) := fun c hc => by rw [(h.cu hc).1.2]; exact h.cuB hc
theorem INV.fwp (h : INV I Z n m r ru N k tA qA mA aA bA WA) {p c : Nat} (hc : c < n) : ¬ fwV I 10 (qA ru) (aA ru) (bA ru) (mA ru) r p c ≤ -1 := fw_pos h.bo (h.cuB hc) h.sd
end PRF
theorem pr_best {E : Ev} {I : Mi} {L : Ml} {Z : Mz} {Q : Po} {x : Int32} (hI : GI I Z) (H : ∀ (rv : Int32) (I1 : Mi) (L1 : Ml), MD E yX6_best cX6_best 2 (some .int) [.ref 48, .int x] (some (.int rv)) I1 L1 Z → Q (some (.int rv)) I1 L1 Z) : AC E yX5_best cX5_best 2 (some .int) 60 0 0 [.ref 0, .int x] I L Z Q := by
  obtain ⟨n, m, r, ru, N, k, tA, qA, mA, aA, bA, WA, h⟩ := hI
  have hG : GZ Z := h.1.1
  have hM : MZ Z := h.1.2.1
  have h6 := h.n6
  by_cases hx : ¬ x < 0 ∧ ¬ 5 < x
  · obtain ⟨A, a1, a2, a3⟩ := base_eq (s := I 13) h.bo (-1) h.sd
    obtain ⟨B, b1, b2, b3⟩ := peace_eq (s := I 13) h.bo h.sd
    obtain ⟨v, hv, rfl⟩ := in_rng (M := 5) (n := 5) rfl (by decide) hx
    match v, hv with
    | 0, _ =>
      refine c_X5_best0 (r := r) (A := A) (B := B) (by decide) hG h.cC.2.2.1 h6.2.2 a1 a2 b1 b2 (fun rv er5 => H _ _ _ fun Q2 K => ?_)
      refine c_X6_best0 (by decide) hM h.rsm (FXA_ok h.bo) (fun i _ => FXA_ok h.bo) h.s12 h.eM.1 h.sd (fun rv2 er sg => ?_)
      have ev : rv2 = rv := by
        rw [er, er5]; exact a3.symm
      rw [ev]
      exact K _ _ _ (h.u31 sg).gi
    | 1, _ =>
      refine c_X5_best1 (r := r) (A := A) (B := B) (by decide) hG h.cC.2.2.1 h6.2.2 a1 a2 b1 b2 (fun rv er5 => H _ _ _ fun Q2 K => ?_)
      refine c_X6_best1 (by decide) hM h.rsm (FXA_ok h.bo) (fun i _ => FXA_ok h.bo) h.s12 h.eM.1 h.sd (fun rv2 er sg => ?_)
      have ev : rv2 = rv := by
        have hb0 := bm_ok (F := foX (I 13) (I 14) r (-1)) (sd := I 10 1) 4096 (I 10 1) (Nat.le_refl _) h.sd
        have a4 : szV (baF (foH I 10 r (-1)) (I 10 1) (I 10 1 &&& orF (I 14) r 0 0) A 0 (I 10 1)) = szV (bmF (foX (I 13) (I 14) r (-1)) (I 10 1) 4096 (I 10 1)) := congrArg szV a3
        rw [er, er5, a4]
        obtain ⟨u, hu, eu⟩ := hb0
        rw [eu]
        unfold szV
        rw [if_neg (nI_ne1 (by omega))]
      rw [ev]
      exact K _ _ _ (h.u31 sg).gi
    | 2, _ =>
      refine c_X5_best2 (r := r) (A := A) (B := B) (by decide) hG h.cC.2.2.1 h6.2.2 a1 a2 b1 b2 (fun rv er5 => H _ _ _ fun Q2 K => ?_)
      refine c_X6_best2 (by decide) hM h.rsm (FXA_ok h.bo) (fun i _ => FXA_ok h.bo) h.s12 h.eM.1 h.sd (fun rv2 er sg => ?_)
      have ev : rv2 = rv := by
        rw [er, er5]; exact (b3 (-1)).symm
      rw [ev]
      exact K _ _ _ (h.u31 sg).gi
    | 3, _ =>
      refine c_X5_best3 (r := r) (A := A) (B := B) (by decide) hG h.cC.2.2.1 h6.2.2 a1 a2 b1 b2 (fun rv er5 => H _ _ _ fun Q2 K => ?_)
      refine c_X6_best3 (by decide) hM h.rsm (FXA_ok h.bo) (fun i _ => FXA_ok h.bo) h.s12 h.eM.1 h.sd (fun rv2 er sg => ?_)
      have ev : rv2 = rv := by
        rw [er, er5]; exact congrArg szV (b3 (-1)).symm
      rw [ev]
      exact K _ _ _ (h.u31 sg).gi
    | 4, _ =>
      refine c_X5_best4 (r := r) (A := A) (B := B) (by decide) hG h.cC.2.2.1 h6.2.2 a1 a2 b1 b2 (fun rv er5 => H _ _ _ fun Q2 K => ?_)
      refine c_X6_best4 (by decide) hM h.rsm (FXA_ok h.bo) (fun i _ => FXA_ok h.bo) h.s12 h.eM.1 h.sd (fun rv2 er sg => ?_)
      have ev : rv2 = rv := by
        have b4 : (fun lo => pmF (foX (I 13) (I 14) r lo) (I 10 1) 4096 0 (-1)) = peH I 10 r B := funext fun lo => (b3 lo).symm
        rw [er, er5, b4]
      rw [ev]
      exact K _ _ _ (h.u31 sg).gi
    | 5, _ =>
      refine c_X5_best5 (r := r) (A := A) (B := B) (by decide) hG h.cC.2.2.1 h6.2.2 a1 a2 b1 b2 (fun rv er5 => H _ _ _ fun Q2 K => ?_)
      refine c_X6_best5 (by decide) hM h.rsm (FXA_ok h.bo) (fun i _ => FXA_ok h.bo) h.s12 h.eM.1 h.sd (fun rv2 er sg => ?_)
      have ev : rv2 = rv := by
        rw [er, er5]; exact (vain_eq h.bo h.s12 r 0 0 (by omega)).symm
      rw [ev]
      exact K _ _ _ (h.u31 sg).gi
  · refine c_X5_bestX hG (toI_out (by decide) hx) (H _ _ _ fun Q2 K => ?_)
    exact c_X6_bestX (by decide) hM hx (K _ _ _ h.gi)
theorem pr_why {E : Ev} {I : Mi} {L : Ml} {Z : Mz} {Q : Po} {x z : Int32} (hI : GI I Z) (H : ∀ (rv : Int32) (I1 : Mi) (L1 : Ml), MD E yX6_why cX6_why 6 (some .int) [.ref 48, .int x, .int z] (some (.int rv)) I1 L1 Z → Q (some (.int rv)) I1 L1 Z) : AC E yX5_why cX5_why 4 (some .int) 60 0 0 [.ref 0, .int x, .int z] I L Z Q := by
  obtain ⟨n, m, r, ru, N, k, tA, qA, mA, aA, bA, WA, h⟩ := hI
  have hG : GZ Z := h.1.1
  have hM : MZ Z := h.1.2.1
  have h6 := h.n6
  by_cases hx : ¬ z < 0 ∧ ¬ 1 < z
  · obtain ⟨v, hv, rfl⟩ := in_rng (M := 1) (n := 1) rfl (by decide) hx
    match v, hv with
    | 0, _ =>
      by_cases hs : ¬ x < 0 ∧ ¬ 11 < x
      · obtain ⟨A, a1, a2, a3⟩ := why_eq h6.2.2 h.bo h.s12 (fun i hi => (h.rs hi).2.2.2) (Bo_of hs)
        refine c_X5_why0 (r := r) (A := A) (by decide) hG h.cC.2.2.1 h6.2.2 (fun _ => a1) a2 (fun hb => absurd hs hb) (fun _ rv er5 => H _ _ _ fun Q2 K => ?_)
        refine c_X6_why0 (by decide) hM h.rsm (FXA_ok h.bo) (fun hb => absurd hs hb) (fun _ rv2 er sg => ?_)
        have ev : rv2 = rv := by
          rw [er, er5]; exact a3.symm
        rw [ev]
        exact K _ _ _ (h.u31 sg).gi
      · refine c_X5_why0 (r := r) (A := 0) (by decide) hG h.cC.2.2.1 h6.2.2 (fun hb => absurd hb hs) (by omega) (fun _ => H _ _ _ fun Q2 K => ?_) (fun hb => absurd hb hs)
        exact c_X6_why0 (by decide) hM h.rsm (FXA_ok h.bo) (fun _ => K _ _ _ h.gi) (fun hb => absurd hb hs)
    | 1, _ =>
      by_cases hs : ¬ x < 0 ∧ ¬ 11 < x
      · obtain ⟨A, a1, a2, a3⟩ := why_eq h6.2.2 h.bo h.s12 (fun i hi => (h.rs hi).2.2.2) (Bo_of hs)
        refine c_X5_why1 (r := r) (A := A) (by decide) hG h.cC.2.2.1 h6.2.2 (fun _ => a1) a2 (fun hb => absurd hs hb) (fun _ rv er5 => H _ _ _ fun Q2 K => ?_)
        refine c_X6_why1 (by decide) hM h.rsm (FXA_ok h.bo) (fun hb => absurd hs hb) (fun _ rv2 er sg => ?_)
        have ev : rv2 = rv := by
          rw [er, er5]; exact congrArg szV a3.symm
        rw [ev]
        exact K _ _ _ (h.u31 sg).gi
      · refine c_X5_why1 (r := r) (A := 0) (by decide) hG h.cC.2.2.1 h6.2.2 (fun hb => absurd hb hs) (by omega) (fun _ => H _ _ _ fun Q2 K => ?_) (fun hb => absurd hb hs)
        exact c_X6_why1 (by decide) hM h.rsm (FXA_ok h.bo) (fun _ => K _ _ _ h.gi) (fun hb => absurd hb hs)
  · refine c_X5_whyX (by decide) hG hx (H _ _ _ fun Q2 K => ?_)
    exact c_X6_whyX (by decide) hM hx (K _ _ _ h.gi)
theorem pr_next {E : Ev} {I : Mi} {L : Ml} {Z : Mz} {Q : Po} {x z : Int32} (hI : GI I Z) (H : ∀ (rv : Int32) (I1 : Mi) (L1 : Ml), MD E yX6_next cX6_next 3 (some .int) [.ref 48, .int x, .int z] (some (.int rv)) I1 L1 Z → Q (some (.int rv)) I1 L1 Z) : AC E yX5_next cX5_next 4 (some .int) 60 0 0 [.ref 0, .int x, .int z] I L Z Q := by
  obtain ⟨n, m, r, ru, N, k, tA, qA, mA, aA, bA, WA, h⟩ := hI
  have hG : GZ Z := h.1.1
  have hM : MZ Z := h.1.2.1
  have h6 := h.n6
  have htq := h.tq
  have htt : tA ru ≠ 13 ∧ tA ru ≠ 14 := by omega
  have hqq : (qA ru ≠ 3 ∧ qA ru ≠ 18) ∧ qA ru ≠ 13 ∧ qA ru ≠ 14 := by omega
  by_cases hx : ¬ z < 0 ∧ ¬ 2 < z
  · obtain ⟨v, hv, rfl⟩ := in_rng (M := 2) (n := 2) rfl (by decide) hx
    match v, hv with
    | 0, _ =>
      refine c_X5_next0 (m := m) (r := r) (by decide) hG h.rd h.cC.2.1 h6.2.1 h.cC.2.2.1 h6.2.2 htt hqq (fun hb => H _ _ _ fun Q2 K => c_X6_next0 (by decide) hM h.rdm h.rsm h.bo h.toB h.eM.1 h.sd (fun _ => K _ _ _ h.gi) (fun p hp e => absurd ⟨p, hp, e⟩ hb)) (fun p hp e1 rv I9 s9 er5 => H _ _ _ fun Q2 K => ?_)
      have h9 := h.samF s9
      have e7 : I9 48 7 = I 10 1 := by rw [s9.1 48 (by decide) (by decide) (by decide) (by decide)]; exact h.eM.1
      refine c_X6_next0 (by decide) hM h9.rdm (h.rsF s9) h.bo h9.toB e7 h.sd (fun hb => absurd ⟨p, hp, e1⟩ hb) (fun q hq f1 rv2 J2 L2 s2 er => ?_)
      have ep := nI_two (by omega) (by omega) e1 f1
      subst ep
      have ev : rv2 = rv := by
        rw [er, er5]
        by_cases e : r = 12
        · rw [if_pos e, if_pos e]; rfl
        · rw [if_neg e, if_neg e]
          refine (congrArg Prod.fst (nc_con n 0 _ _ (fun i _ hi => h.fwJ s9.rbe hq (by omega)))).trans ?_
          exact nc_ct n 0 (-1) (-1) _ (by omega) (fun i _ hi => h.fwp (by omega)) (Or.inl ⟨rfl, rfl⟩)
      rw [ev]
      exact K _ _ _ (h9.saB s2).gi
    | 1, _ =>
      have key : ∀ p, p < m → x = nI p → ∀ (rv : Int32) (I9 : Mi), SamF 10 r I I9 → rv = (ncF (fwV I 10 (qA ru) (aA ru) (bA ru) (mA ru) r p) (if r = 12 then 0 else n) 0 (-1) (bcV (foX (I 13) (I 14) r (-1) (I 10 1)))).2 → MD E yX6_next cX6_next 3 (some .int) [.ref 48, .int x, .int (nI 1)] (some (.int rv)) I9 L Z := fun p hp e1 rv I9 s9 er5 Q2 K => by
        have h9 := h.samF s9
        have e7 : I9 48 7 = I 10 1 := by rw [s9.1 48 (by decide) (by decide) (by decide) (by decide)]; exact h.eM.1
        refine c_X6_next1 (by decide) hM h9.rdm (h.rsF s9) h.bo h9.toB e7 h.sd (fun hb => absurd ⟨p, hp, e1⟩ hb) (fun q hq f1 rv2 J2 L2 s2 er => ?_)
        have ep := nI_two (by omega) (by omega) e1 f1
        subst ep
        have ev : rv2 = rv := by
          rw [er, er5]
          refine congrArg Prod.snd (nc_con _ 0 _ _ (fun i _ hi => h.fwJ s9.rbe hq ?_))
          by_cases e : r = 12
          · rw [if_pos e] at hi; omega
          · rw [if_neg e] at hi; omega
        rw [ev]
        exact K _ _ _ (h9.saB s2).gi
      have two : ∀ p, p < m → (((if r = 12 then -1 else ctF (fwV I 10 (qA ru) (aA ru) (bA ru) (mA ru) r p) n 0 (-1) (-1)) = (-1 : Int32) ∧ (ncF (fwV I 10 (qA ru) (aA ru) (bA ru) (mA ru) r p) (if r = 12 then 0 else n) 0 (-1) (bcV (foX (I 13) (I 14) r (-1) (I 10 1)))).2 = bcV (foX (I 13) (I 14) r (-1) (I 10 1))) ∨ ∃ c, c < 1000 ∧ (if r = 12 then -1 else ctF (fwV I 10 (qA ru) (aA ru) (bA ru) (mA ru) r p) n 0 (-1) (-1)) = nI c ∧ (ncF (fwV I 10 (qA ru) (aA ru) (bA ru) (mA ru) r p) (if r = 12 then 0 else n) 0 (-1) (bcV (foX (I 13) (I 14) r (-1) (I 10 1)))).2 = fwV I 10 (qA ru) (aA ru) (bA ru) (mA ru) r p c) := fun p hp => by
        by_cases e : r = 12
        · rw [if_pos e, if_pos e]; exact Or.inl ⟨rfl, rfl⟩
        · rw [if_neg e, if_neg e, ← nc_ct n 0 (-1) (-1) (bcV (foX (I 13) (I 14) r (-1) (I 10 1))) (by omega) (fun i _ hi => h.fwp (by omega)) (Or.inl ⟨rfl, rfl⟩)]
          exact nc_two n 0 _ _ (by omega) (Or.inl ⟨rfl, rfl⟩)
      refine c_X5_next1 (m := m) (r := r) (by decide) hG h.rd h.cC.2.1 h6.2.1 h.cC.2.2.1 h6.2.2 htt hqq (fun hb => H _ _ _ fun Q2 K => c_X6_next1 (by decide) hM h.rdm h.rsm h.bo h.toB h.eM.1 h.sd (fun _ => K _ _ _ h.gi) (fun p hp e => absurd ⟨p, hp, e⟩ hb)) (fun p hp e1 ec rv I9 s9 er5 => H _ _ _ (key p hp e1 rv I9 s9 ?_)) (fun p hp e1 c hc ec rv I9 s9 er5 => H _ _ _ (key p hp e1 rv I9 s9 ?_))
      · rw [er5]
        rcases two p hp with w | ⟨c, w1, w2, w3⟩
        · exact w.2.symm
        · rw [ec] at w2; exact absurd w2.symm (nI_ne1 (by omega))
      · rw [er5]
        rcases two p hp with w | ⟨c2, w1, w2, w3⟩
        · rw [ec] at w; exact absurd w.1 (nI_ne1 (by omega))
        · rw [ec] at w2
          rw [w3, (nI_eq (by omega) (by omega)).mp w2]
    | 2, _ =>
      refine c_X5_next2 (m := m) (r := r) (by decide) hG h.rd h.cC.2.1 h6.2.1 h.cC.2.2.1 h6.2.2 htt hqq (fun hb => H _ _ _ fun Q2 K => c_X6_next2 (by decide) hM h.rdm (fun _ => K _ _ _ h.gi) (fun p hp e => absurd ⟨p, hp, e⟩ hb)) (fun p hp e1 rv I9 s9 er5 => H _ _ _ fun Q2 K => ?_)
      have h9 := h.samH s9
      refine c_X6_next2 (by decide) hM h9.rdm (fun hb => absurd ⟨p, hp, e1⟩ hb) (fun q hq f1 rv2 J2 L2 s2 er => ?_)
      have ep := nI_two (by omega) (by omega) e1 f1
      subst ep
      have ev : rv2 = rv := by
        rw [er, er5]
        exact dgO_con (fun i hi => (h.rbJ s9.rbe hq hi).symm) n 0 0 (by omega)
      rw [ev]
      exact K _ _ _ (h9.saM s2).gi
  · refine c_X5_nextX (by decide) hG hx (H _ _ _ fun Q2 K => ?_)
    exact c_X6_nextX (by decide) hM h.rdm hx (K _ _ _ h.gi)

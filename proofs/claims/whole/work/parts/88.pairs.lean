/-! ===== pairs: film, follows, share ===== -/
theorem bw64 {P : Nat → Prop} (h : ∀ a, a < 64 → ∀ b, b < 64 → P (64 * a + b)) : ∀ v, v < 4096 → P v := fun v hv => by
  have := h (v / 64) (by omega) (v % 64) (by omega)
  rwa [Nat.div_add_mod] at this
theorem na_ok : ∀ v, v < 4096 → naV 1 (nI v) = nI v := bw64 (P := fun v => naV 1 (nI v) = nI v) (by decide +kernel)
theorem fi_63 {M : Mi} {s k j : Nat} {f : Nat → Int32} (hj : j < k) : fiM M s f k 63 (40 * s + j) = f j := by
  unfold fiM
  rw [rU_s]
  rw [if_pos (by omega), show 40 * s + j - 40 * s = j by omega]
theorem fi_o {M : Mi} {s k a j : Nat} {f : Nat → Int32} (h : ¬ (a = 63 ∧ 40 * s ≤ j ∧ j < 40 * s + k)) : fiM M s f k a j = M a j := by
  unfold fiM
  by_cases e : a = 63
  · subst e
    rw [rU_s]
    rw [if_neg (by omega)]
  · rw [rU_o e]
theorem pr_film {E : Ev} {I : Mi} {L : Ml} {Z : Mz} {Q : Po} {x z : Int32} (hI : GI I Z) (H : ∀ (rv : Int32) (I1 : Mi) (L1 : Ml), MD E yX6_film cX6_film 4 (some .int) [.ref 48, .int x, .int z] (some (.int rv)) I1 L1 Z → Q (some (.int rv)) I1 L1 Z) : AC E yX5_film cX5_film 5 (some .int) 60 0 0 [.ref 0, .int x, .int z] I L Z Q := by
  obtain ⟨n, m, r, ru, N, k, tA, qA, mA, aA, bA, WA, h⟩ := hI
  have hG : GZ Z := h.1.1
  have hM : MZ Z := h.1.2.1
  have h6 := h.n6
  have hS := h.2.2.2.2.2
  have h6n := h6.1
  refine c_X5_film (m := m) (by decide) hG h.rd h.cC.2.1 h6.2.1 h.tq (fun hb => H _ _ _ fun Q2 K => c_X6_film (by decide) hM h.rdm (fun _ => K _ _ _ h.gi) (fun s p hs hp e1 e2 => absurd ⟨sh_x hs e1, p, hp, e2⟩ hb)) (fun s p hs hp e1 e2 I9 s9 it => H _ _ _ fun Q2 K => ?_)
  have fr : ∀ a j, a ≠ 3 → a ≠ 18 → ¬ (a = 38 + 2 * s) → ¬ (a = 38 + 2 * s + 1) → I9 a j = I a j := fun a j q1 q2 q3 q4 => by rw [s9 a q1 q2 q4, beM_o (by omega)]
  have eb : RbE I I9 := ⟨funext fun j => fr _ _ (by omega) (by omega) (by omega) (by omega), funext fun j => fr _ _ (by omega) (by omega) (by omega) (by omega), funext fun j => fr _ _ (by omega) (by omega) (by omega) (by omega), fr _ _ (by omega) (by omega) (by omega) (by omega)⟩
  have hR9 : RDM I9 (WA ru) ru n m := h.rdm.eqv (fr _ _ (by omega) (by omega) (by omega) (by omega)) (funext fun j => fr _ _ (by omega) (by omega) (by omega) (by omega)) (funext fun j => fr _ _ (by omega) (by omega) (by omega) (by omega)) (fr _ _ (by omega) (by omega) (by omega) (by omega)) (fr _ _ (by omega) (by omega) (by omega) (by omega)) (funext fun j => fr _ _ (by omega) (by omega) (by omega) (by omega)) (funext fun j => fr _ _ (by omega) (by omega) (by omega) (by omega)) (by rw [fr 48 8 (by omega) (by omega) (by omega) (by omega)]; exact h.rdm.2.2.2.2.2)
  refine c_X6_film (by decide) hM hR9 (fun hb => absurd ⟨sh_x hs e1, p, hp, e2⟩ hb) (fun t q ht hq f1 f2 J2 L2 s2 => ?_)
  have et := nI_two (by omega) (by omega) e1 f1
  have eq := nI_two (by omega) (by omega) e2 f2
  subst et; subst eq
  have o2 : ∀ a j, ¬ (a = 48 ∧ 16 ≤ j ∧ j ≤ 31) → ¬ (a = 63 ∧ 40 * t ≤ j ∧ j < 40 * t + n) → ¬ ((a = 60 ∨ a = 61 ∨ a = 62) ∧ j = t) → J2 a j = I9 a j := fun a j q1 q2 q3 => by rw [s2 a j q1, fi_o q2, zrM_o q2, smM_o q3]
  have hb1 : I9 (38 + 2 * t) 1 = 1 := by rw [s9 _ (by omega) (by omega) (by omega), beM_1]
  have hb2 : I9 (38 + 2 * t) 2 = nI n := by rw [s9 _ (by omega) (by omega) (by omega), beM_2]
  refine K _ _ _ (h.she (fun u hu => ?_) (fun a j w g1 g2 => by
    obtain ⟨w1, w2, w3, w4, w5, w6, w7, w8, w9⟩ := w
    rw [o2 a j w7 (by omega) (by omega)]; exact fr a j w1 w2 (by omega) (by omega))).gi
  by_cases eu : u = t
  · subst eu
    refine ⟨⟨n, by omega, by rw [o2 _ _ (by omega) (by omega) (by omega)]; exact hb2⟩, Or.inr ⟨?_, ?_, ?_, ?_, fun z ez hz j hj => ?_⟩⟩
    · rw [o2 _ _ (by omega) (by omega) (by omega), hb1]; decide
    · rw [s2 _ _ (by omega), fi_o (by omega), zrM_o (by omega)]; exact smM_s.1
    · rw [o2 (38 + 2 * u) _ (by omega) (by omega) (by omega), hb1, s2 _ _ (by omega), fi_o (by omega), zrM_o (by omega)]; exact smM_s.2.1
    · rw [o2 (38 + 2 * u) _ (by omega) (by omega) (by omega), hb2, s2 _ _ (by omega), fi_o (by omega), zrM_o (by omega)]; exact smM_s.2.2
    · rw [o2 _ _ (by omega) (by omega) (by omega), hb2] at ez
      have ezn : n = z := (nI_eq (by omega) (by omega)).mp ez
      rw [s2 _ _ (by omega), fi_63 (by omega), o2 (38 + 2 * u + 1) j (by omega) (by omega) (by omega), it j (by omega), ← h.rbJ eb hp (show j < n by omega)]
      obtain ⟨v, hv, ev⟩ := (h.rbS hp (show j < n by omega)).1
      rw [ev, na_ok v hv]
  · refine (hS u hu).eqv hu (fun a j w => ?_)
    rw [o2 a j (by omega) (by omega) (by omega)]
    exact fr a j (by omega) (by omega) (by omega) (by omega)
theorem cl_cm : ∀ v, v < 4096 → (clP (nI v) ↔ cmP (nI v)) := bw64 (P := fun v => (clP (nI v) ↔ cmP (nI v))) (by decide +kernel)
theorem bc_ok : ∀ v, v < 4096 → (bcV (nI v) = nI (bcV (nI v)).toNatClampNeg ∧ (bcV (nI v)).toNatClampNeg ≤ 12) := bw64 (P := fun v => (bcV (nI v) = nI (bcV (nI v)).toNatClampNeg ∧ (bcV (nI v)).toNatClampNeg ≤ 12)) (by decide +kernel)
theorem gc_ok : ∀ o, o ≤ 12 → ∀ u, u ≤ 12 → 1 ≤ u → o ≤ u → cdN o u u = Nat.gcd o u := by decide +kernel
section PRE
variable {I J : Mi} {Z : Mz} {n m r ru N k : Nat} {tA qA mA aA bA : Nat → Nat} {WA : Nat → Wt}
theorem INV.rsm (h : INV I Z n m r ru N k tA qA mA aA bA WA) : RSM I r (I 13) (I 14) := ⟨h.cM.2.2.1, h.n6.2.2, fun i hi => (h.rs hi).1⟩
theorem INV.bo (h : INV I Z n m r ru N k tA qA mA aA bA WA) : ∀ i, i < r → Bo (I 14 i) := fun i hi => (h.rs hi).2.2.1
theorem INV.s12 (h : INV I Z n m r ru N k tA qA mA aA bA WA) : ∀ i, i < r → S12 (I 13 i) := fun i hi => (h.rs hi).2.1
theorem INV.fS (h : INV I Z n m r ru N k tA qA mA aA bA WA) {lo x : Int32} (hx : S12 x) : S12 (foX (I 13) (I 14) r lo x) := fo_S12 h.bo hx
end PRE
theorem pr_follows {E : Ev} {I : Mi} {L : Ml} {Z : Mz} {Q : Po} {x z : Int32} (hI : GI I Z) (H : ∀ (rv : Int32) (I1 : Mi) (L1 : Ml), MD E yX6_follows cX6_follows 4 (some .int) [.ref 48, .int x, .int z] (some (.int rv)) I1 L1 Z → Q (some (.int rv)) I1 L1 Z) : AC E yX5_follows cX5_follows 4 (some .int) 60 0 0 [.ref 0, .int x, .int z] I L Z Q := by
  obtain ⟨n, m, r, ru, N, k, tA, qA, mA, aA, bA, WA, h⟩ := hI
  have hG : GZ Z := h.1.1
  have hM : MZ Z := h.1.2.1
  have h6 := h.n6
  by_cases hx : ¬ z < 0 ∧ ¬ 2 < z
  · obtain ⟨v, hv, rfl⟩ := in_rng (M := 2) (n := 2) rfl (by decide) hx
    match v, hv with
    | 0, _ =>
      refine c_X5_follows0 (r := r) (by decide) hG h.cC.2.2.1 h6.2.2 (fun hb => H _ _ _ fun Q2 K => c_X6_follows0 (by decide) hM h.rsm (FXA_ok h.bo) (fun _ => K _ _ _ h.gi) (fun hs => absurd hs hb)) (fun hs rv er5 => H _ _ _ fun Q2 K => ?_)
      refine c_X6_follows0 (by decide) hM h.rsm (FXA_ok h.bo) (fun hb => absurd hs hb) (fun _ rv2 er sg => ?_)
      have ev : rv2 = rv := by rw [er, er5]; rfl
      rw [ev]
      exact K _ _ _ (h.u31 sg).gi
    | 1, _ =>
      refine c_X5_follows1 (r := r) (by decide) hG h.cC.2.2.1 h6.2.2 (fun hb => H _ _ _ fun Q2 K => c_X6_follows1 (by decide) hM h.rsm (FXA_ok h.bo) (fun _ => K _ _ _ h.gi) (fun hs => absurd hs hb)) (fun hs rv er5 => H _ _ _ fun Q2 K => ?_)
      refine c_X6_follows1 (by decide) hM h.rsm (FXA_ok h.bo) (fun hb => absurd hs hb) (fun _ rv2 er sg => ?_)
      have ev : rv2 = rv := by rw [er, er5]; rfl
      rw [ev]
      exact K _ _ _ (h.u31 sg).gi
    | 2, _ =>
      refine c_X5_follows2 (r := r) (by decide) hG h.cC.2.2.1 h6.2.2 (fun hb => H _ _ _ fun Q2 K => c_X6_follows2 (by decide) hM h.rsm (FXA_ok h.bo) (fun _ => K _ _ _ h.gi) (fun hs => absurd hs hb)) (fun hs rv er5 => H _ _ _ fun Q2 K => ?_)
      refine c_X6_follows2 (by decide) hM h.rsm (FXA_ok h.bo) (fun hb => absurd hs hb) (fun _ rv2 er sg => ?_)
      have ev : rv2 = rv := by 
        obtain ⟨u, hu, eu⟩ := h.fS (lo := -1) (S12_of hs)
        have e1 : foH I 10 r (-1) x = nI u := eu
        rw [er, er5, eu, e1]
        by_cases g : clP (nI u)
        · rw [if_pos g, if_pos ((cl_cm u hu).mp g)]
        · rw [if_neg g, if_neg (fun w => g ((cl_cm u hu).mpr w))]
      rw [ev]
      exact K _ _ _ (h.u31 sg).gi
    | v + 3, hv => omega
  · exact c_X5_followsX (by decide) hG hx (H _ _ _ fun Q2 K => c_X6_followsX (by decide) hM hx (K _ _ _ h.gi))
theorem pr_share {E : Ev} {I : Mi} {L : Ml} {Z : Mz} {Q : Po} {x : Int32} (hI : GI I Z) (H : ∀ (rv : Int64) (I1 : Mi) (L1 : Ml), MD E yX6_share cX6_share 2 (some .long) [.ref 48, .int x] (some (.long rv)) I1 L1 Z → Q (some (.long rv)) I1 L1 Z) : AC E yX5_share cX5_share 2 (some .long) 60 0 0 [.ref 0, .int x] I L Z Q := by
  obtain ⟨n, m, r, ru, N, k, tA, qA, mA, aA, bA, WA, h⟩ := hI
  have hG : GZ Z := h.1.1
  have hM : MZ Z := h.1.2.1
  have h6 := h.n6
  obtain ⟨v, hv, ev⟩ := h.fS (lo := -1) h.sd
  obtain ⟨o1, o2⟩ := bc_ok v hv
  have e5 : bcV (foH I 10 r (-1) (I 10 1)) = nI (bcV (nI v)).toNatClampNeg := by
    have : foH I 10 r (-1) (I 10 1) = nI v := ev
    rw [this]; exact o1
  generalize (bcV (nI v)).toNatClampNeg = o at o1 o2 e5
  by_cases hx : ¬ x < 0 ∧ ¬ 1 < x
  · obtain ⟨w, hw, rfl⟩ := in_rng (M := 1) (n := 1) rfl (by decide) hx
    match w, hw with
    | 0, _ =>
      refine c_X5_share0 (r := r) (o := o) (by decide) hG h.cC.2.2.1 h6.2.2 e5 (by omega) (fun rv er5 => H _ _ _ fun Q2 K => ?_)
      refine c_X6_share0 (o := o) (v := v) (by decide) hM h.rsm (fx_all h.bo h.sd) h.eM.1 hv ev o1 (by omega) (fun rv2 er sg => ?_)
      have ee : rv2 = rv := by rw [er, er5, gc_ok o o2 12 (by decide) (by decide) o2]
      rw [ee]
      exact K _ _ _ (h.u31 sg).gi
    | 1, _ =>
      refine c_X5_share1 (r := r) (o := o) (by decide) hG h.cC.2.2.1 h6.2.2 e5 (by omega) (fun rv er5 => H _ _ _ fun Q2 K => ?_)
      refine c_X6_share1 (o := o) (v := v) (by decide) hM h.rsm (fx_all h.bo h.sd) h.eM.1 hv ev o1 (by omega) (fun rv2 er sg => ?_)
      have ee : rv2 = rv := by rw [er, er5, gc_ok o o2 12 (by decide) (by decide) o2]
      rw [ee]
      exact K _ _ _ (h.u31 sg).gi
    | w + 2, hw => omega
  · exact c_X5_shareX (by decide) hG hx (H _ _ _ fun Q2 K => c_X6_shareX (by decide) hM hx (K _ _ _ h.gi))

/-! ===== bits, once more ===== -/
theorem sh_tb : ∀ q, q < 12 → ∀ v, v < 4096 → (nI v >>> (nI q &&& 31)) &&& 1 = (if tb (nI v) q = true then 1 else 0) := by
  intro q hq
  refine bw64 (P := fun v => (nI v >>> (nI q &&& 31)) &&& 1 = (if tb (nI v) q = true then 1 else 0)) ?_
  have : ∀ q, q < 12 → ∀ a, a < 64 → ∀ b, b < 64 → (nI (64 * a + b) >>> (nI q &&& 31)) &&& 1 = (if tb (nI (64 * a + b)) q = true then 1 else 0) := by decide +kernel
  exact this q hq
theorem bit_tb {q : Nat} (hq : q < 12) (x : Int32) : x &&& ((1 : Int32) <<< (nI q &&& 31)) = 0 ↔ ¬ tb x q = true := by
  constructor
  · intro h hk
    have e := congrArg (fun z => tb z q) h
    simp only [tb_and, tb_one hq, tb_zero, hk, decide_true, Bool.and_true] at e
    cases e
  · intro h
    refine tb_ext fun i _ => ?_
    rw [tb_and, tb_one hq, tb_zero]
    by_cases e : q = i
    · subst e
      revert h
      cases tb x q <;> simp
    · simp [e]
theorem cl_sm {x : Int32} (h : sm x) : clP x ↔ cmP x := by
  obtain ⟨v, hv, rfl⟩ := of_sm h
  exact cl_cm v hv
theorem cl_mem : ∀ v, v < 4096 → (clP (nI v) ↔ ∃ k, k < 6 ∧ tb (nI v) k = true ∧ tb (nI v) (k + 6) = true) := by
  refine bw64 (P := fun v => (clP (nI v) ↔ ∃ k, k < 6 ∧ tb (nI v) k = true ∧ tb (nI v) (k + 6) = true)) ?_
  decide +kernel

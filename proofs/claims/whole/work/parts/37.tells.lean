/-- all texts -/
def TXS (I : Mi) (Z : Mz) (N : Nat) (tA qA mA aA bA : Nat → Nat) : Prop := ∀ v, v < N → zP Z 2 v = some (tA v) ∧ TxZ Z (tA v) (qA v) (mA v) ∧ mA v ≤ 160 ∧ I (tA v) 1 = nI (aA v) ∧ I (tA v) 2 = nI (bA v) ∧ aA v ≤ bA v ∧ bA v ≤ mA v ∧ 45 < tA v ∧ 45 < qA v
theorem RD.put {I : Mi} {Z : Mz} {ru t q mm ma mb n h b k : Nat} {x : Int32} (g : RD I Z h ru t q mm ma mb n) (hb : b ≠ h ∧ b ≠ t) : RD (iU I b k x) Z h ru t q mm ma mb n := by
  refine g.eqv ?_ ?_
  · funext j; exact iU_at (fun z => hb.1 z.1.symm)
  · funext j; exact iU_at (fun z => hb.2 z.1.symm)
theorem SamK.thx {A K : Nat} {I I9 : Mi} (hA : 28 ≤ A ∧ A ≤ 36) (s : SamK A K (blM I 28 10) I9) : ThX I I9 := by
  intro b h3 h18 hb
  funext j
  rw [s b j h3 (by omega) (by omega), blM_row (by omega)]
theorem SamH.thx {I I9 : Mi} (s : SamH 10 I I9) : ThX I I9 := fun b h3 h18 _ => s b h3 h18
theorem c_X5_bitsOf4 {E : Ev} {d : Nat} {I : Mi} {L : Ml} {Z : Mz} {Q : Po}  {s p z N : Nat} {ru t q mm ma mb n m : Nat} (hd : 6 ≤ d) (hG : GZ Z) (hR : RD I Z 10 ru t q mm ma mb n) (hm : I 10 13 = nI m) (hm5 : m ≤ 5) (htq : 45 < t ∧ 45 < q) (hs : s < 4) (hp : p < 5) (hsz : I (38 + 2 * s) 2 = nI z) (hzn : z ≤ n) (hN : N ≤ 1000) (hQ : ∀ (rv : Int32) (I9 : Mi), ThX I I9 → rv = btF (fun v => foS (I (38 + 2 * s + 1)) (rbV (iU (blM I 28 10) 34 p (nI v)) 28 q ma mb mm p) z 0) N 0 0 → Q (some (.int rv)) I9 L Z) : AC E yX5_bitsOf cX5_bitsOf 7 (some .int) d 0 0 [.ref 0, .ref (38 + 2 * s), .int (nI p), .int 4, .int (nI N)] I L Z Q := by
  refine ac_go (ls := [some (.ref 0), some (.ref (38 + 2 * s)), some (.int (nI p)), some (.int 4), some (.int (nI N)), none, none]) (by decide +kernel) (Nat.le_of_ble_eq_true rfl) rfl ?_
  refine aw_aload_n dX5_bitsOf_0 rfl rfl ?_
  refine aw_gr dX5_bitsOf_1 fw_X5_35 hG.1 hG.2.2.2.2.2.1 ?_
  refine aw_aload_n dX5_bitsOf_4 rfl rfl ?_
  refine aw_gr dX5_bitsOf_5 fw_X5_28 hG.1 hG.2.2.2.1 ?_
  refine aw_V1 dX5_bitsOf_8 cw_X5_248 ⟨_, _, rfl⟩ hG.2.2.2.2.2.2.2.2.2.2.2.1.1 (by omega) ⟨Nat.le_refl _, Nat.le_refl _⟩ (by decide) (c_X0_becomeLike (by omega) hG.2.2.2.2.2.2.2.2.2.2.2.1 hG.2.2.2.2.2.2.2.2.2.1 (by omega) ?_)
  refine aw_iconst (v := 0) dX5_bitsOf_11 (by decide) ?_
  refine aw_istore (ls' := [_, _, _, _, _, _, _]) dX5_bitsOf_12 (by decide) rfl rfl ?_
  refine aw_iconst (v := 0) dX5_bitsOf_14 (by decide) ?_
  refine aw_istore (ls' := [_, _, _, _, _, _, _]) dX5_bitsOf_15 (by decide) rfl rfl ?_
  have ei : (blM I 28 10) (38 + 2 * s + 1) = I (38 + 2 * s + 1) := blM_row (by omega)
  refine l_X5_bitsOf4 (n := n) (z := z) (rA := fun _ => ru) (tA := fun _ => t) (qA := fun _ => q) (mA := fun _ => mm) (aA := fun _ => ma) (bA := fun _ => mb) hG hs hp hd hN (fun v hv => (hR.th hG htq).put (by omega)) (by rw [blM_row (by omega)]; exact hsz) hzn N 0 0 (blM I 28 10) (by omega) SamK.rf (fun rv I9 h9 e0 => hQ rv I9 (h9.thx (by decide)) ?_)
  rw [ei] at e0
  exact e0
theorem c_X5_bitsOf6 {E : Ev} {d : Nat} {I : Mi} {L : Ml} {Z : Mz} {Q : Po}  {s p z N : Nat} {ru t q mm ma mb n m : Nat} (hd : 6 ≤ d) (hG : GZ Z) (hR : RD I Z 10 ru t q mm ma mb n) (hm : I 10 13 = nI m) (hm5 : m ≤ 5) (htq : 45 < t ∧ 45 < q) (hs : s < 4) (hp : p < 5) (hsz : I (38 + 2 * s) 2 = nI z) (hzn : z ≤ n) (hN : N ≤ 1000) (hQ : ∀ (rv : Int32) (I9 : Mi), ThX I I9 → rv = btF (fun v => foS (I (38 + 2 * s + 1)) (rbV (iU (blM I 28 10) 33 p (nI v)) 28 q ma mb mm p) z 0) N 0 0 → Q (some (.int rv)) I9 L Z) : AC E yX5_bitsOf cX5_bitsOf 7 (some .int) d 0 0 [.ref 0, .ref (38 + 2 * s), .int (nI p), .int 6, .int (nI N)] I L Z Q := by
  refine ac_go (ls := [some (.ref 0), some (.ref (38 + 2 * s)), some (.int (nI p)), some (.int 6), some (.int (nI N)), none, none]) (by decide +kernel) (Nat.le_of_ble_eq_true rfl) rfl ?_
  refine aw_aload_n dX5_bitsOf_0 rfl rfl ?_
  refine aw_gr dX5_bitsOf_1 fw_X5_35 hG.1 hG.2.2.2.2.2.1 ?_
  refine aw_aload_n dX5_bitsOf_4 rfl rfl ?_
  refine aw_gr dX5_bitsOf_5 fw_X5_28 hG.1 hG.2.2.2.1 ?_
  refine aw_V1 dX5_bitsOf_8 cw_X5_248 ⟨_, _, rfl⟩ hG.2.2.2.2.2.2.2.2.2.2.2.1.1 (by omega) ⟨Nat.le_refl _, Nat.le_refl _⟩ (by decide) (c_X0_becomeLike (by omega) hG.2.2.2.2.2.2.2.2.2.2.2.1 hG.2.2.2.2.2.2.2.2.2.1 (by omega) ?_)
  refine aw_iconst (v := 0) dX5_bitsOf_11 (by decide) ?_
  refine aw_istore (ls' := [_, _, _, _, _, _, _]) dX5_bitsOf_12 (by decide) rfl rfl ?_
  refine aw_iconst (v := 0) dX5_bitsOf_14 (by decide) ?_
  refine aw_istore (ls' := [_, _, _, _, _, _, _]) dX5_bitsOf_15 (by decide) rfl rfl ?_
  have ei : (blM I 28 10) (38 + 2 * s + 1) = I (38 + 2 * s + 1) := blM_row (by omega)
  refine l_X5_bitsOf6 (n := n) (z := z) (rA := fun _ => ru) (tA := fun _ => t) (qA := fun _ => q) (mA := fun _ => mm) (aA := fun _ => ma) (bA := fun _ => mb) hG hs hp hd hN (fun v hv => (hR.th hG htq).put (by omega)) (by rw [blM_row (by omega)]; exact hsz) hzn N 0 0 (blM I 28 10) (by omega) SamK.rf (fun rv I9 h9 e0 => hQ rv I9 (h9.thx (by decide)) ?_)
  rw [ei] at e0
  exact e0
theorem c_X5_bitsOf10 {E : Ev} {d : Nat} {I : Mi} {L : Ml} {Z : Mz} {Q : Po}  {s p z N : Nat} {tA qA mA aA bA : Nat → Nat} {ru t q mm ma mb n m : Nat} (hd : 6 ≤ d) (hG : GZ Z) (hR : RD I Z 10 ru t q mm ma mb n) (hm : I 10 13 = nI m) (hm5 : m ≤ 5) (htq : 45 < t ∧ 45 < q) (hs : s < 4) (hp : p < 5) (hsz : I (38 + 2 * s) 2 = nI z) (hzn : z ≤ n) (hX : TXS I Z N tA qA mA aA bA) (hN6 : N ≤ 6) (hN : N ≤ 1000) (hQ : ∀ (rv : Int32) (I9 : Mi), ThX I I9 → rv = btF (fun v => foS (I (38 + 2 * s + 1)) (rbV (iU (blM I 28 10) 28 3 (nI v)) 28 (qA v) (aA v) (bA v) (mA v) p) z 0) N 0 0 → Q (some (.int rv)) I9 L Z) : AC E yX5_bitsOf cX5_bitsOf 7 (some .int) d 0 0 [.ref 0, .ref (38 + 2 * s), .int (nI p), .int 10, .int (nI N)] I L Z Q := by
  refine ac_go (ls := [some (.ref 0), some (.ref (38 + 2 * s)), some (.int (nI p)), some (.int 10), some (.int (nI N)), none, none]) (by decide +kernel) (Nat.le_of_ble_eq_true rfl) rfl ?_
  refine aw_aload_n dX5_bitsOf_0 rfl rfl ?_
  refine aw_gr dX5_bitsOf_1 fw_X5_35 hG.1 hG.2.2.2.2.2.1 ?_
  refine aw_aload_n dX5_bitsOf_4 rfl rfl ?_
  refine aw_gr dX5_bitsOf_5 fw_X5_28 hG.1 hG.2.2.2.1 ?_
  refine aw_V1 dX5_bitsOf_8 cw_X5_248 ⟨_, _, rfl⟩ hG.2.2.2.2.2.2.2.2.2.2.2.1.1 (by omega) ⟨Nat.le_refl _, Nat.le_refl _⟩ (by decide) (c_X0_becomeLike (by omega) hG.2.2.2.2.2.2.2.2.2.2.2.1 hG.2.2.2.2.2.2.2.2.2.1 (by omega) ?_)
  refine aw_iconst (v := 0) dX5_bitsOf_11 (by decide) ?_
  refine aw_istore (ls' := [_, _, _, _, _, _, _]) dX5_bitsOf_12 (by decide) rfl rfl ?_
  refine aw_iconst (v := 0) dX5_bitsOf_14 (by decide) ?_
  refine aw_istore (ls' := [_, _, _, _, _, _, _]) dX5_bitsOf_15 (by decide) rfl rfl ?_
  have ei : (blM I 28 10) (38 + 2 * s + 1) = I (38 + 2 * s + 1) := blM_row (by omega)
  refine l_X5_bitsOf10 (n := n) (z := z) (rA := fun v => v) hG hs hp hd hN (fun v hv => by
      obtain ⟨x1, x2, x3, x4, x5, x6, x7, x8, x9⟩ := hX v hv
      have g := hR.th hG htq
      exact ⟨g.1, g.2.1, ⟨iU_same, by omega, x1, x2, x3, by rw [iU_at (by omega), blM_row (by omega)]; exact x4, by rw [iU_at (by omega), blM_row (by omega)]; exact x5, x6, x7, by omega, by omega, by omega, by omega⟩, by rw [iU_at (by omega)]; exact g.2.2.2.1, g.2.2.2.2.1, by decide⟩) (by rw [blM_row (by omega)]; exact hsz) hzn N 0 0 (blM I 28 10) (by omega) SamK.rf (fun rv I9 h9 e0 => hQ rv I9 (h9.thx (by decide)) ?_)
  rw [ei] at e0
  exact e0
theorem c_X5_hoursOf0 {E : Ev} {d : Nat} {I : Mi} {L : Ml} {Z : Mz} {Q : Po}  {s p z : Nat} {ru t q mm ma mb n m : Nat} (hd : 6 ≤ d) (hG : GZ Z) (hR : RD I Z 10 ru t q mm ma mb n) (hm : I 10 13 = nI m) (hm5 : m ≤ 5) (htq : 45 < t ∧ 45 < q) (hs : s < 4) (hp : p < 5) (hsz : I (38 + 2 * s) 2 = nI z) (hzn : z ≤ n) (hQ : ∀ (rv : Int32) (I9 : Mi), ThX I I9 → rv = hcF (fun v => foS (I (38 + 2 * s + 1)) (rbV (iU (blM I 28 10) 28 2 (nI v)) 28 q ma mb mm p) z 0) 100 0 0 → Q (some (.int rv)) I9 L Z) : AC E yX5_hoursOf cX5_hoursOf 6 (some .int) d 0 0 [.ref 0, .ref (38 + 2 * s), .int (nI p), .int 0] I L Z Q := by
  refine ac_go (ls := [some (.ref 0), some (.ref (38 + 2 * s)), some (.int (nI p)), some (.int 0), none, none]) (by decide +kernel) (Nat.le_of_ble_eq_true rfl) rfl ?_
  refine aw_aload_n dX5_hoursOf_0 rfl rfl ?_
  refine aw_gr dX5_hoursOf_1 fw_X5_35 hG.1 hG.2.2.2.2.2.1 ?_
  refine aw_aload_n dX5_hoursOf_4 rfl rfl ?_
  refine aw_gr dX5_hoursOf_5 fw_X5_28 hG.1 hG.2.2.2.1 ?_
  refine aw_V1 dX5_hoursOf_8 cw_X5_248 ⟨_, _, rfl⟩ hG.2.2.2.2.2.2.2.2.2.2.2.1.1 (by omega) ⟨Nat.le_refl _, Nat.le_refl _⟩ (by decide) (c_X0_becomeLike (by omega) hG.2.2.2.2.2.2.2.2.2.2.2.1 hG.2.2.2.2.2.2.2.2.2.1 (by omega) ?_)
  refine aw_iconst (v := 0) dX5_hoursOf_11 (by decide) ?_
  refine aw_istore (ls' := [_, _, _, _, _, _]) dX5_hoursOf_12 (by decide) rfl rfl ?_
  refine aw_iconst (v := 0) dX5_hoursOf_14 (by decide) ?_
  refine aw_istore (ls' := [_, _, _, _, _, _]) dX5_hoursOf_15 (by decide) rfl rfl ?_
  have ei : (blM I 28 10) (38 + 2 * s + 1) = I (38 + 2 * s + 1) := blM_row (by omega)
  refine l_X5_hoursOf0 (n := n) (z := z) hG hs hp hd htq (hR.th hG htq) (by rw [blM_row (by omega)]; exact hsz) hzn 100 0 0 (blM I 28 10) (by omega) SamK.rf (fun rv I9 h9 e0 => hQ rv I9 (h9.thx (by decide)) ?_)
  rw [ei] at e0
  exact e0
theorem c_X5_hoursOf1 {E : Ev} {d : Nat} {I : Mi} {L : Ml} {Z : Mz} {Q : Po}  {s p z : Nat} {ru t q mm ma mb n m : Nat} (hd : 6 ≤ d) (hG : GZ Z) (hR : RD I Z 10 ru t q mm ma mb n) (hm : I 10 13 = nI m) (hm5 : m ≤ 5) (htq : 45 < t ∧ 45 < q) (hs : s < 4) (hp : p < 5) (hsz : I (38 + 2 * s) 2 = nI z) (hzn : z ≤ n) (hQ : ∀ (rv : Int32) (I9 : Mi), ThX I I9 → rv = hlF (fun v => foS (I (38 + 2 * s + 1)) (rbV (iU (blM I 28 10) 28 2 (nI v)) 28 q ma mb mm p) z 0) 100 0 → Q (some (.int rv)) I9 L Z) : AC E yX5_hoursOf cX5_hoursOf 6 (some .int) d 0 0 [.ref 0, .ref (38 + 2 * s), .int (nI p), .int 1] I L Z Q := by
  refine ac_go (ls := [some (.ref 0), some (.ref (38 + 2 * s)), some (.int (nI p)), some (.int 1), none, none]) (by decide +kernel) (Nat.le_of_ble_eq_true rfl) rfl ?_
  refine aw_aload_n dX5_hoursOf_0 rfl rfl ?_
  refine aw_gr dX5_hoursOf_1 fw_X5_35 hG.1 hG.2.2.2.2.2.1 ?_
  refine aw_aload_n dX5_hoursOf_4 rfl rfl ?_
  refine aw_gr dX5_hoursOf_5 fw_X5_28 hG.1 hG.2.2.2.1 ?_
  refine aw_V1 dX5_hoursOf_8 cw_X5_248 ⟨_, _, rfl⟩ hG.2.2.2.2.2.2.2.2.2.2.2.1.1 (by omega) ⟨Nat.le_refl _, Nat.le_refl _⟩ (by decide) (c_X0_becomeLike (by omega) hG.2.2.2.2.2.2.2.2.2.2.2.1 hG.2.2.2.2.2.2.2.2.2.1 (by omega) ?_)
  refine aw_iconst (v := 0) dX5_hoursOf_11 (by decide) ?_
  refine aw_istore (ls' := [_, _, _, _, _, _]) dX5_hoursOf_12 (by decide) rfl rfl ?_
  refine aw_iconst (v := 0) dX5_hoursOf_14 (by decide) ?_
  refine aw_istore (ls' := [_, _, _, _, _, _]) dX5_hoursOf_15 (by decide) rfl rfl ?_
  have ei : (blM I 28 10) (38 + 2 * s + 1) = I (38 + 2 * s + 1) := blM_row (by omega)
  refine l_X5_hoursOf1 (n := n) (z := z) hG hs hp hd htq (hR.th hG htq) (by rw [blM_row (by omega)]; exact hsz) hzn 100 0 0 (blM I 28 10) (by omega) SamK.rf (fun rv I9 h9 e0 => hQ rv I9 (h9.thx (by decide)) ?_)
  rw [ei] at e0
  exact e0
theorem c_X5_readersOf {E : Ev} {d : Nat} {I : Mi} {L : Ml} {Z : Mz} {Q : Po}  {s z : Nat} {ru t q mm ma mb n m : Nat} (hd : 6 ≤ d) (hG : GZ Z) (hR : RD I Z 10 ru t q mm ma mb n) (hm : I 10 13 = nI m) (hm5 : m ≤ 5) (htq : 45 < t ∧ 45 < q) (hs : s < 4) (hsz : I (38 + 2 * s) 2 = nI z) (hzn : z ≤ n) (hQ : ∀ (rv : Int32) (I9 : Mi), ThX I I9 → rv = btF (fun p => foS (I (38 + 2 * s + 1)) (rbV I 10 q ma mb mm p) z 0) m 0 0 → Q (some (.int rv)) I9 L Z) : AC E yX5_readersOf cX5_readersOf 4 (some .int) d 0 0 [.ref 0, .ref (38 + 2 * s)] I L Z Q := by
  refine ac_go (ls := [some (.ref 0), some (.ref (38 + 2 * s)), none, none]) (by decide +kernel) (Nat.le_of_ble_eq_true rfl) rfl ?_
  refine aw_iconst (v := 0) dX5_readersOf_0 (by decide) ?_
  refine aw_istore_n (ls' := [_, _, _, _]) dX5_readersOf_1 (by decide) rfl rfl ?_
  refine aw_iconst (v := 0) dX5_readersOf_2 (by decide) ?_
  refine aw_istore_n (ls' := [_, _, _, _]) dX5_readersOf_3 (by decide) rfl rfl ?_
  exact l_X5_readersOf hG hs hd hR hm hm5 hsz hzn m 0 0 I (by omega) SamH.rf (fun rv I9 h9 e0 => hQ rv I9 h9.thx e0)
theorem c_X5_tells0 {E : Ev} {d : Nat} {I : Mi} {L : Ml} {Z : Mz} {Q : Po} {x : Int32} {y : Int32} {N : Nat} {tA qA mA aA bA : Nat → Nat} {ru t q mm ma mb n m : Nat} (hd : 7 ≤ d) (hG : GZ Z) (hR : RD I Z 10 ru t q mm ma mb n) (hm : I 10 13 = nI m) (hm5 : m ≤ 5) (htq : 45 < t ∧ 45 < q) (hz : ∀ s, s < 4 → ∃ z, z ≤ 40 ∧ I (38 + 2 * s) 2 = nI z) (hTX : TXS I Z N tA qA mA aA bA) (hN1 : I 1 2 = nI N) (hN6 : N ≤ 6) (hB : ¬ ((¬ x < 0 ∧ ¬ 3 < x) ∧ (∃ j, j < m ∧ y = nI j)) → Q (some (.int (-2))) I L Z) (hM : ∀ s p, s < 4 → p < m → x = nI s → y = nI p → I (38 + 2 * s) 1 = -1 → Q (some (.int (-11))) I L Z) (hB2 : ∀ s p z, s < 4 → p < m → x = nI s → y = nI p → ¬ I (38 + 2 * s) 1 = -1 → I (38 + 2 * s) 2 = nI z → z ≤ 40 ∧ n < z → Q (some (.int (-2))) I L Z) (hS : ∀ s p z, s < 4 → p < m → x = nI s → y = nI p → ¬ I (38 + 2 * s) 1 = -1 → I (38 + 2 * s) 2 = nI z → z ≤ n → ∀ (rv : Int32) (I9 : Mi), ThX I I9 → rv = foS (I (38 + 2 * s + 1)) (rbV I 10 q ma mb mm p) z 0 → Q (some (.int rv)) I9 L Z) : AC E yX5_tells cX5_tells 5 (some .int) d 0 0 [.ref 0, .int x, .int y, .int 0] I L Z Q := by
  refine ac_go (ls := [some (.ref 0), some (.int x), some (.int y), some (.int 0), none]) (by decide +kernel) (Nat.le_of_ble_eq_true rfl) rfl ?_
  have hn6 := hR.2.2.2.2.1
  refine aw_iload_n dX5_tells_0 rfl ?_
  refine aw_S1 dX5_tells_1 cw_X5_214 (by omega) ⟨Nat.le_refl _, Nat.le_refl _⟩ (by decide) (c_X5_isSheet (by omega) (fun c1 => ?_) (fun c1 => ?_))
  · refine aw_if_eq (tgt := 28) dX5_tells_4 (by decide) (fun zz => absurd zz (by decide)) (fun _ => ?_)
    refine aw_aload_n dX5_tells_7 rfl rfl ?_
    refine aw_gr dX5_tells_8 fw_X5_28 hG.1 hG.2.2.2.1 ?_
    refine aw_iload_n dX5_tells_11 rfl ?_
    refine aw_V1 dX5_tells_12 cw_X5_117 ⟨_, _, rfl⟩ hG.2.2.2.2.2.2.2.2.2.1.1 (by omega) ⟨Nat.le_refl _, Nat.le_refl _⟩ (by decide) (c_X0_hasReader hG.2.2.2.2.2.2.2.2.2.1 (fun c12 => ?_) (fun c12 => ?_))
    · refine aw_if_eq (tgt := 28) dX5_tells_15 (by decide) (fun zz => absurd zz (by decide)) (fun _ => ?_)
      refine aw_iload_n dX5_tells_18 rfl ?_
      refine aw_iconst (v := 0) dX5_tells_19 (by decide) ?_
      refine aw_bipush (v := 6) dX5_tells_20 (by decide) ?_
      refine aw_S3 dX5_tells_22 cw_X5_72 (by omega) ⟨Nat.le_refl _, Nat.le_refl _⟩ (by decide) (c_X5_within (fun _ => ?_) (fun zz => absurd (by decide) zz))
      refine aw_if_ne (tgt := 31) dX5_tells_25 (by decide) (fun _ => ?_) (fun zz => absurd zz (by decide))
      obtain ⟨s, hs, rfl⟩ := sh4 c1
      obtain ⟨p, hp, rfl⟩ := (ix_iff hm (by omega)).mp c12
      refine aw_aload_n dX5_tells_31 rfl rfl ?_
      refine aw_gr dX5_tells_32 fw_X5_40 hG.1 hG.2.2.2.2.2.2.1 ?_
      refine aw_iload_n dX5_tells_35 rfl ?_
      refine aw_ar s dX5_tells_36 hG.2.2.2.2.2.2.2.1 rfl hs (by decide) (hG.2.2.2.2.2.2.2.2.1 s hs).1 ?_
      refine aw_astore (ls' := [_, _, _, _, _]) dX5_tells_37 (by decide) rfl rfl rfl ?_
      refine aw_aload dX5_tells_39 rfl rfl ?_
      refine aw_V0 dX5_tells_41 cw_X5_217 ⟨_, _, rfl⟩ (hG.2.2.2.2.2.2.2.2.1 s hs).2.1 (by omega) ⟨Nat.le_refl _, Nat.le_refl _⟩ (by decide) (c_X2_isMissing (hG.2.2.2.2.2.2.2.2.1 s hs).2 (fun c41 => ?_) (fun c41 => ?_))
      · refine aw_if_eq (tgt := 50) dX5_tells_44 (by decide) (fun zz => absurd zz (by decide)) (fun _ => ?_)
        refine aw_bipush (v := -11) dX5_tells_47 (by decide) ?_
        refine aw_ireturn (ty := .int) dX5_tells_49 rfl rfl ?_
        exact hM s p hs hp rfl rfl c41
      · refine aw_if_eq (tgt := 50) dX5_tells_44 (by decide) (fun _ => ?_) (fun zz => absurd zz (by decide))
        obtain ⟨z, hz4, hsz⟩ := hz s hs
        have hle : I (38 + 2 * s) 2 ≤ I 10 6 ↔ z ≤ n := by rw [hsz, hR.2.2.2.1]; exact nI_leI (by omega) (by omega)
        refine aw_aload dX5_tells_50 rfl rfl ?_
        refine aw_gi dX5_tells_52 fw_X5_220 (hG.2.2.2.2.2.2.2.2.1 s hs).2.1 ?_
        refine aw_aload_n dX5_tells_55 rfl rfl ?_
        refine aw_gr dX5_tells_56 fw_X5_28 hG.1 hG.2.2.2.1 ?_
        refine aw_gi dX5_tells_59 fw_X5_205 hG.2.2.2.2.2.2.2.2.2.1.1 ?_
        refine aw_icmp_le (tgt := 68) dX5_tells_62 (by decide) (fun c62 => ?_) (fun c62 => ?_)
        · have hzn := hle.mp c62
          refine aw_iload_n dX5_tells_68 rfl ?_
          refine aw_tableIn (off := 39) (tgt := 108) dX5_tells_69 (by decide) (by decide) (by rfl) (by decide) ?_
          refine aw_aload_n dX5_tells_108 rfl rfl ?_
          refine aw_gr dX5_tells_109 fw_X5_28 hG.1 hG.2.2.2.1 ?_
          refine aw_aload dX5_tells_112 rfl rfl ?_
          refine aw_iload_n dX5_tells_114 rfl ?_
          refine aw_V2 dX5_tells_115 cw_X5_223 ⟨_, _, rfl⟩ hG.2.2.2.2.2.2.2.2.2.1.1 (by omega) ⟨Nat.le_refl _, Nat.le_refl _⟩ (by decide) (c_X0_firstOtherwise (by omega) hR (show p < 5 by omega) (hG.2.2.2.2.2.2.2.2.1 s hs).2 hsz hzn (by omega) (fun rX IX hX eX => ?_))
          refine aw_ireturn (ty := .int) dX5_tells_118 rfl rfl ?_
          exact hS s p z hs hp rfl rfl c41 hsz hzn _ _ hX.thx eX
        · refine aw_bipush (v := -2) dX5_tells_65 (by decide) ?_
          refine aw_ireturn (ty := .int) dX5_tells_67 rfl rfl ?_
          exact hB2 s p z hs hp rfl rfl c41 hsz ⟨hz4, (Nat.not_le.mp (fun zz => c62 (hle.mpr zz)))⟩
    · refine aw_if_eq (tgt := 28) dX5_tells_15 (by decide) (fun _ => ?_) (fun zz => absurd zz (by decide))
      refine aw_bipush (v := -2) dX5_tells_28 (by decide) ?_
      refine aw_ireturn (ty := .int) dX5_tells_30 rfl rfl ?_
      exact hB (fun zz => c12 ((ix_iff hm (by omega)).mpr zz.2))
  · refine aw_if_eq (tgt := 28) dX5_tells_4 (by decide) (fun _ => ?_) (fun zz => absurd zz (by decide))
    refine aw_bipush (v := -2) dX5_tells_28 (by decide) ?_
    refine aw_ireturn (ty := .int) dX5_tells_30 rfl rfl ?_
    exact hB (fun zz => c1 zz.1)
theorem c_X5_tells1 {E : Ev} {d : Nat} {I : Mi} {L : Ml} {Z : Mz} {Q : Po} {x : Int32} {y : Int32} {N : Nat} {tA qA mA aA bA : Nat → Nat} {ru t q mm ma mb n m : Nat} (hd : 7 ≤ d) (hG : GZ Z) (hR : RD I Z 10 ru t q mm ma mb n) (hm : I 10 13 = nI m) (hm5 : m ≤ 5) (htq : 45 < t ∧ 45 < q) (hz : ∀ s, s < 4 → ∃ z, z ≤ 40 ∧ I (38 + 2 * s) 2 = nI z) (hTX : TXS I Z N tA qA mA aA bA) (hN1 : I 1 2 = nI N) (hN6 : N ≤ 6) (hB : ¬ ((¬ x < 0 ∧ ¬ 3 < x) ∧ (∃ j, j < m ∧ y = nI j)) → Q (some (.int (-2))) I L Z) (hM : ∀ s p, s < 4 → p < m → x = nI s → y = nI p → I (38 + 2 * s) 1 = -1 → Q (some (.int (-11))) I L Z) (hB2 : ∀ s p z, s < 4 → p < m → x = nI s → y = nI p → ¬ I (38 + 2 * s) 1 = -1 → I (38 + 2 * s) 2 = nI z → z ≤ 40 ∧ n < z → Q (some (.int (-2))) I L Z) (hS : ∀ s p z, s < 4 → p < m → x = nI s → y = nI p → ¬ I (38 + 2 * s) 1 = -1 → I (38 + 2 * s) 2 = nI z → z ≤ n → ∀ (rv : Int32) (I9 : Mi), ThX I I9 → rv = btF (fun v => foS (I (38 + 2 * s + 1)) (rbV (iU (blM I 28 10) 33 p (nI v)) 28 q ma mb mm p) z 0) 6 0 0 → Q (some (.int rv)) I9 L Z) : AC E yX5_tells cX5_tells 5 (some .int) d 0 0 [.ref 0, .int x, .int y, .int 1] I L Z Q := by
  refine ac_go (ls := [some (.ref 0), some (.int x), some (.int y), some (.int 1), none]) (by decide +kernel) (Nat.le_of_ble_eq_true rfl) rfl ?_
  have hn6 := hR.2.2.2.2.1
  refine aw_iload_n dX5_tells_0 rfl ?_
  refine aw_S1 dX5_tells_1 cw_X5_214 (by omega) ⟨Nat.le_refl _, Nat.le_refl _⟩ (by decide) (c_X5_isSheet (by omega) (fun c1 => ?_) (fun c1 => ?_))
  · refine aw_if_eq (tgt := 28) dX5_tells_4 (by decide) (fun zz => absurd zz (by decide)) (fun _ => ?_)
    refine aw_aload_n dX5_tells_7 rfl rfl ?_
    refine aw_gr dX5_tells_8 fw_X5_28 hG.1 hG.2.2.2.1 ?_
    refine aw_iload_n dX5_tells_11 rfl ?_
    refine aw_V1 dX5_tells_12 cw_X5_117 ⟨_, _, rfl⟩ hG.2.2.2.2.2.2.2.2.2.1.1 (by omega) ⟨Nat.le_refl _, Nat.le_refl _⟩ (by decide) (c_X0_hasReader hG.2.2.2.2.2.2.2.2.2.1 (fun c12 => ?_) (fun c12 => ?_))
    · refine aw_if_eq (tgt := 28) dX5_tells_15 (by decide) (fun zz => absurd zz (by decide)) (fun _ => ?_)
      refine aw_iload_n dX5_tells_18 rfl ?_
      refine aw_iconst (v := 0) dX5_tells_19 (by decide) ?_
      refine aw_bipush (v := 6) dX5_tells_20 (by decide) ?_
      refine aw_S3 dX5_tells_22 cw_X5_72 (by omega) ⟨Nat.le_refl _, Nat.le_refl _⟩ (by decide) (c_X5_within (fun _ => ?_) (fun zz => absurd (by decide) zz))
      refine aw_if_ne (tgt := 31) dX5_tells_25 (by decide) (fun _ => ?_) (fun zz => absurd zz (by decide))
      obtain ⟨s, hs, rfl⟩ := sh4 c1
      obtain ⟨p, hp, rfl⟩ := (ix_iff hm (by omega)).mp c12
      refine aw_aload_n dX5_tells_31 rfl rfl ?_
      refine aw_gr dX5_tells_32 fw_X5_40 hG.1 hG.2.2.2.2.2.2.1 ?_
      refine aw_iload_n dX5_tells_35 rfl ?_
      refine aw_ar s dX5_tells_36 hG.2.2.2.2.2.2.2.1 rfl hs (by decide) (hG.2.2.2.2.2.2.2.2.1 s hs).1 ?_
      refine aw_astore (ls' := [_, _, _, _, _]) dX5_tells_37 (by decide) rfl rfl rfl ?_
      refine aw_aload dX5_tells_39 rfl rfl ?_
      refine aw_V0 dX5_tells_41 cw_X5_217 ⟨_, _, rfl⟩ (hG.2.2.2.2.2.2.2.2.1 s hs).2.1 (by omega) ⟨Nat.le_refl _, Nat.le_refl _⟩ (by decide) (c_X2_isMissing (hG.2.2.2.2.2.2.2.2.1 s hs).2 (fun c41 => ?_) (fun c41 => ?_))
      · refine aw_if_eq (tgt := 50) dX5_tells_44 (by decide) (fun zz => absurd zz (by decide)) (fun _ => ?_)
        refine aw_bipush (v := -11) dX5_tells_47 (by decide) ?_
        refine aw_ireturn (ty := .int) dX5_tells_49 rfl rfl ?_
        exact hM s p hs hp rfl rfl c41
      · refine aw_if_eq (tgt := 50) dX5_tells_44 (by decide) (fun _ => ?_) (fun zz => absurd zz (by decide))
        obtain ⟨z, hz4, hsz⟩ := hz s hs
        have hle : I (38 + 2 * s) 2 ≤ I 10 6 ↔ z ≤ n := by rw [hsz, hR.2.2.2.1]; exact nI_leI (by omega) (by omega)
        refine aw_aload dX5_tells_50 rfl rfl ?_
        refine aw_gi dX5_tells_52 fw_X5_220 (hG.2.2.2.2.2.2.2.2.1 s hs).2.1 ?_
        refine aw_aload_n dX5_tells_55 rfl rfl ?_
        refine aw_gr dX5_tells_56 fw_X5_28 hG.1 hG.2.2.2.1 ?_
        refine aw_gi dX5_tells_59 fw_X5_205 hG.2.2.2.2.2.2.2.2.2.1.1 ?_
        refine aw_icmp_le (tgt := 68) dX5_tells_62 (by decide) (fun c62 => ?_) (fun c62 => ?_)
        · have hzn := hle.mp c62
          refine aw_iload_n dX5_tells_68 rfl ?_
          refine aw_tableIn (off := 50) (tgt := 119) dX5_tells_69 (by decide) (by decide) (by rfl) (by decide) ?_
          refine aw_aload_n dX5_tells_119 rfl rfl ?_
          refine aw_aload dX5_tells_120 rfl rfl ?_
          refine aw_iload_n dX5_tells_122 rfl ?_
          refine aw_bipush (v := 6) dX5_tells_123 (by decide) ?_
          refine aw_bipush (v := 6) dX5_tells_125 (by decide) ?_
          refine aw_V4 dX5_tells_127 cw_X5_227 ⟨_, _, rfl⟩ hG.1 (by omega) ⟨Nat.le_refl _, Nat.le_refl _⟩ (by decide) (c_X5_bitsOf6 (N := 6) (by omega) hG hR hm hm5 htq hs (show p < 5 by omega) hsz hzn (by decide) (fun rX IX hX eX => ?_))
          refine aw_ireturn (ty := .int) dX5_tells_130 rfl rfl ?_
          exact hS s p z hs hp rfl rfl c41 hsz hzn _ _ hX eX
        · refine aw_bipush (v := -2) dX5_tells_65 (by decide) ?_
          refine aw_ireturn (ty := .int) dX5_tells_67 rfl rfl ?_
          exact hB2 s p z hs hp rfl rfl c41 hsz ⟨hz4, (Nat.not_le.mp (fun zz => c62 (hle.mpr zz)))⟩
    · refine aw_if_eq (tgt := 28) dX5_tells_15 (by decide) (fun _ => ?_) (fun zz => absurd zz (by decide))
      refine aw_bipush (v := -2) dX5_tells_28 (by decide) ?_
      refine aw_ireturn (ty := .int) dX5_tells_30 rfl rfl ?_
      exact hB (fun zz => c12 ((ix_iff hm (by omega)).mpr zz.2))
  · refine aw_if_eq (tgt := 28) dX5_tells_4 (by decide) (fun _ => ?_) (fun zz => absurd zz (by decide))
    refine aw_bipush (v := -2) dX5_tells_28 (by decide) ?_
    refine aw_ireturn (ty := .int) dX5_tells_30 rfl rfl ?_
    exact hB (fun zz => c1 zz.1)
theorem c_X5_tells2 {E : Ev} {d : Nat} {I : Mi} {L : Ml} {Z : Mz} {Q : Po} {x : Int32} {y : Int32} {N : Nat} {tA qA mA aA bA : Nat → Nat} {ru t q mm ma mb n m : Nat} (hd : 7 ≤ d) (hG : GZ Z) (hR : RD I Z 10 ru t q mm ma mb n) (hm : I 10 13 = nI m) (hm5 : m ≤ 5) (htq : 45 < t ∧ 45 < q) (hz : ∀ s, s < 4 → ∃ z, z ≤ 40 ∧ I (38 + 2 * s) 2 = nI z) (hTX : TXS I Z N tA qA mA aA bA) (hN1 : I 1 2 = nI N) (hN6 : N ≤ 6) (hB : ¬ ((¬ x < 0 ∧ ¬ 3 < x) ∧ (∃ j, j < m ∧ y = nI j)) → Q (some (.int (-2))) I L Z) (hM : ∀ s p, s < 4 → p < m → x = nI s → y = nI p → I (38 + 2 * s) 1 = -1 → Q (some (.int (-11))) I L Z) (hB2 : ∀ s p z, s < 4 → p < m → x = nI s → y = nI p → ¬ I (38 + 2 * s) 1 = -1 → I (38 + 2 * s) 2 = nI z → z ≤ 40 ∧ n < z → Q (some (.int (-2))) I L Z) (hS : ∀ s p z, s < 4 → p < m → x = nI s → y = nI p → ¬ I (38 + 2 * s) 1 = -1 → I (38 + 2 * s) 2 = nI z → z ≤ n → ∀ (rv : Int32) (I9 : Mi), ThX I I9 → rv = btF (fun v => foS (I (38 + 2 * s + 1)) (rbV (iU (blM I 28 10) 34 p (nI v)) 28 q ma mb mm p) z 0) 10 0 0 → Q (some (.int rv)) I9 L Z) : AC E yX5_tells cX5_tells 5 (some .int) d 0 0 [.ref 0, .int x, .int y, .int 2] I L Z Q := by
  refine ac_go (ls := [some (.ref 0), some (.int x), some (.int y), some (.int 2), none]) (by decide +kernel) (Nat.le_of_ble_eq_true rfl) rfl ?_
  have hn6 := hR.2.2.2.2.1
  refine aw_iload_n dX5_tells_0 rfl ?_
  refine aw_S1 dX5_tells_1 cw_X5_214 (by omega) ⟨Nat.le_refl _, Nat.le_refl _⟩ (by decide) (c_X5_isSheet (by omega) (fun c1 => ?_) (fun c1 => ?_))
  · refine aw_if_eq (tgt := 28) dX5_tells_4 (by decide) (fun zz => absurd zz (by decide)) (fun _ => ?_)
    refine aw_aload_n dX5_tells_7 rfl rfl ?_
    refine aw_gr dX5_tells_8 fw_X5_28 hG.1 hG.2.2.2.1 ?_
    refine aw_iload_n dX5_tells_11 rfl ?_
    refine aw_V1 dX5_tells_12 cw_X5_117 ⟨_, _, rfl⟩ hG.2.2.2.2.2.2.2.2.2.1.1 (by omega) ⟨Nat.le_refl _, Nat.le_refl _⟩ (by decide) (c_X0_hasReader hG.2.2.2.2.2.2.2.2.2.1 (fun c12 => ?_) (fun c12 => ?_))
    · refine aw_if_eq (tgt := 28) dX5_tells_15 (by decide) (fun zz => absurd zz (by decide)) (fun _ => ?_)
      refine aw_iload_n dX5_tells_18 rfl ?_
      refine aw_iconst (v := 0) dX5_tells_19 (by decide) ?_
      refine aw_bipush (v := 6) dX5_tells_20 (by decide) ?_
      refine aw_S3 dX5_tells_22 cw_X5_72 (by omega) ⟨Nat.le_refl _, Nat.le_refl _⟩ (by decide) (c_X5_within (fun _ => ?_) (fun zz => absurd (by decide) zz))
      refine aw_if_ne (tgt := 31) dX5_tells_25 (by decide) (fun _ => ?_) (fun zz => absurd zz (by decide))
      obtain ⟨s, hs, rfl⟩ := sh4 c1
      obtain ⟨p, hp, rfl⟩ := (ix_iff hm (by omega)).mp c12
      refine aw_aload_n dX5_tells_31 rfl rfl ?_
      refine aw_gr dX5_tells_32 fw_X5_40 hG.1 hG.2.2.2.2.2.2.1 ?_
      refine aw_iload_n dX5_tells_35 rfl ?_
      refine aw_ar s dX5_tells_36 hG.2.2.2.2.2.2.2.1 rfl hs (by decide) (hG.2.2.2.2.2.2.2.2.1 s hs).1 ?_
      refine aw_astore (ls' := [_, _, _, _, _]) dX5_tells_37 (by decide) rfl rfl rfl ?_
      refine aw_aload dX5_tells_39 rfl rfl ?_
      refine aw_V0 dX5_tells_41 cw_X5_217 ⟨_, _, rfl⟩ (hG.2.2.2.2.2.2.2.2.1 s hs).2.1 (by omega) ⟨Nat.le_refl _, Nat.le_refl _⟩ (by decide) (c_X2_isMissing (hG.2.2.2.2.2.2.2.2.1 s hs).2 (fun c41 => ?_) (fun c41 => ?_))
      · refine aw_if_eq (tgt := 50) dX5_tells_44 (by decide) (fun zz => absurd zz (by decide)) (fun _ => ?_)
        refine aw_bipush (v := -11) dX5_tells_47 (by decide) ?_
        refine aw_ireturn (ty := .int) dX5_tells_49 rfl rfl ?_
        exact hM s p hs hp rfl rfl c41
      · refine aw_if_eq (tgt := 50) dX5_tells_44 (by decide) (fun _ => ?_) (fun zz => absurd zz (by decide))
        obtain ⟨z, hz4, hsz⟩ := hz s hs
        have hle : I (38 + 2 * s) 2 ≤ I 10 6 ↔ z ≤ n := by rw [hsz, hR.2.2.2.1]; exact nI_leI (by omega) (by omega)
        refine aw_aload dX5_tells_50 rfl rfl ?_
        refine aw_gi dX5_tells_52 fw_X5_220 (hG.2.2.2.2.2.2.2.2.1 s hs).2.1 ?_
        refine aw_aload_n dX5_tells_55 rfl rfl ?_
        refine aw_gr dX5_tells_56 fw_X5_28 hG.1 hG.2.2.2.1 ?_
        refine aw_gi dX5_tells_59 fw_X5_205 hG.2.2.2.2.2.2.2.2.2.1.1 ?_
        refine aw_icmp_le (tgt := 68) dX5_tells_62 (by decide) (fun c62 => ?_) (fun c62 => ?_)
        · have hzn := hle.mp c62
          refine aw_iload_n dX5_tells_68 rfl ?_
          refine aw_tableIn (off := 62) (tgt := 131) dX5_tells_69 (by decide) (by decide) (by rfl) (by decide) ?_
          refine aw_aload_n dX5_tells_131 rfl rfl ?_
          refine aw_aload dX5_tells_132 rfl rfl ?_
          refine aw_iload_n dX5_tells_134 rfl ?_
          refine aw_iconst (v := 4) dX5_tells_135 (by decide) ?_
          refine aw_bipush (v := 10) dX5_tells_136 (by decide) ?_
          refine aw_V4 dX5_tells_138 cw_X5_227 ⟨_, _, rfl⟩ hG.1 (by omega) ⟨Nat.le_refl _, Nat.le_refl _⟩ (by decide) (c_X5_bitsOf4 (N := 10) (by omega) hG hR hm hm5 htq hs (show p < 5 by omega) hsz hzn (by decide) (fun rX IX hX eX => ?_))
          refine aw_ireturn (ty := .int) dX5_tells_141 rfl rfl ?_
          exact hS s p z hs hp rfl rfl c41 hsz hzn _ _ hX eX
        · refine aw_bipush (v := -2) dX5_tells_65 (by decide) ?_
          refine aw_ireturn (ty := .int) dX5_tells_67 rfl rfl ?_
          exact hB2 s p z hs hp rfl rfl c41 hsz ⟨hz4, (Nat.not_le.mp (fun zz => c62 (hle.mpr zz)))⟩
    · refine aw_if_eq (tgt := 28) dX5_tells_15 (by decide) (fun _ => ?_) (fun zz => absurd zz (by decide))
      refine aw_bipush (v := -2) dX5_tells_28 (by decide) ?_
      refine aw_ireturn (ty := .int) dX5_tells_30 rfl rfl ?_
      exact hB (fun zz => c12 ((ix_iff hm (by omega)).mpr zz.2))
  · refine aw_if_eq (tgt := 28) dX5_tells_4 (by decide) (fun _ => ?_) (fun zz => absurd zz (by decide))
    refine aw_bipush (v := -2) dX5_tells_28 (by decide) ?_
    refine aw_ireturn (ty := .int) dX5_tells_30 rfl rfl ?_
    exact hB (fun zz => c1 zz.1)
theorem c_X5_tells3 {E : Ev} {d : Nat} {I : Mi} {L : Ml} {Z : Mz} {Q : Po} {x : Int32} {y : Int32} {N : Nat} {tA qA mA aA bA : Nat → Nat} {ru t q mm ma mb n m : Nat} (hd : 7 ≤ d) (hG : GZ Z) (hR : RD I Z 10 ru t q mm ma mb n) (hm : I 10 13 = nI m) (hm5 : m ≤ 5) (htq : 45 < t ∧ 45 < q) (hz : ∀ s, s < 4 → ∃ z, z ≤ 40 ∧ I (38 + 2 * s) 2 = nI z) (hTX : TXS I Z N tA qA mA aA bA) (hN1 : I 1 2 = nI N) (hN6 : N ≤ 6) (hB : ¬ ((¬ x < 0 ∧ ¬ 3 < x) ∧ (∃ j, j < m ∧ y = nI j)) → Q (some (.int (-2))) I L Z) (hM : ∀ s p, s < 4 → p < m → x = nI s → y = nI p → I (38 + 2 * s) 1 = -1 → Q (some (.int (-11))) I L Z) (hB2 : ∀ s p z, s < 4 → p < m → x = nI s → y = nI p → ¬ I (38 + 2 * s) 1 = -1 → I (38 + 2 * s) 2 = nI z → z ≤ 40 ∧ n < z → Q (some (.int (-2))) I L Z) (hS : ∀ s p z, s < 4 → p < m → x = nI s → y = nI p → ¬ I (38 + 2 * s) 1 = -1 → I (38 + 2 * s) 2 = nI z → z ≤ n → ∀ (rv : Int32) (I9 : Mi), ThX I I9 → rv = hcF (fun v => foS (I (38 + 2 * s + 1)) (rbV (iU (blM I 28 10) 28 2 (nI v)) 28 q ma mb mm p) z 0) 100 0 0 → Q (some (.int rv)) I9 L Z) : AC E yX5_tells cX5_tells 5 (some .int) d 0 0 [.ref 0, .int x, .int y, .int 3] I L Z Q := by
  refine ac_go (ls := [some (.ref 0), some (.int x), some (.int y), some (.int 3), none]) (by decide +kernel) (Nat.le_of_ble_eq_true rfl) rfl ?_
  have hn6 := hR.2.2.2.2.1
  refine aw_iload_n dX5_tells_0 rfl ?_
  refine aw_S1 dX5_tells_1 cw_X5_214 (by omega) ⟨Nat.le_refl _, Nat.le_refl _⟩ (by decide) (c_X5_isSheet (by omega) (fun c1 => ?_) (fun c1 => ?_))
  · refine aw_if_eq (tgt := 28) dX5_tells_4 (by decide) (fun zz => absurd zz (by decide)) (fun _ => ?_)
    refine aw_aload_n dX5_tells_7 rfl rfl ?_
    refine aw_gr dX5_tells_8 fw_X5_28 hG.1 hG.2.2.2.1 ?_
    refine aw_iload_n dX5_tells_11 rfl ?_
    refine aw_V1 dX5_tells_12 cw_X5_117 ⟨_, _, rfl⟩ hG.2.2.2.2.2.2.2.2.2.1.1 (by omega) ⟨Nat.le_refl _, Nat.le_refl _⟩ (by decide) (c_X0_hasReader hG.2.2.2.2.2.2.2.2.2.1 (fun c12 => ?_) (fun c12 => ?_))
    · refine aw_if_eq (tgt := 28) dX5_tells_15 (by decide) (fun zz => absurd zz (by decide)) (fun _ => ?_)
      refine aw_iload_n dX5_tells_18 rfl ?_
      refine aw_iconst (v := 0) dX5_tells_19 (by decide) ?_
      refine aw_bipush (v := 6) dX5_tells_20 (by decide) ?_
      refine aw_S3 dX5_tells_22 cw_X5_72 (by omega) ⟨Nat.le_refl _, Nat.le_refl _⟩ (by decide) (c_X5_within (fun _ => ?_) (fun zz => absurd (by decide) zz))
      refine aw_if_ne (tgt := 31) dX5_tells_25 (by decide) (fun _ => ?_) (fun zz => absurd zz (by decide))
      obtain ⟨s, hs, rfl⟩ := sh4 c1
      obtain ⟨p, hp, rfl⟩ := (ix_iff hm (by omega)).mp c12
      refine aw_aload_n dX5_tells_31 rfl rfl ?_
      refine aw_gr dX5_tells_32 fw_X5_40 hG.1 hG.2.2.2.2.2.2.1 ?_
      refine aw_iload_n dX5_tells_35 rfl ?_
      refine aw_ar s dX5_tells_36 hG.2.2.2.2.2.2.2.1 rfl hs (by decide) (hG.2.2.2.2.2.2.2.2.1 s hs).1 ?_
      refine aw_astore (ls' := [_, _, _, _, _]) dX5_tells_37 (by decide) rfl rfl rfl ?_
      refine aw_aload dX5_tells_39 rfl rfl ?_
      refine aw_V0 dX5_tells_41 cw_X5_217 ⟨_, _, rfl⟩ (hG.2.2.2.2.2.2.2.2.1 s hs).2.1 (by omega) ⟨Nat.le_refl _, Nat.le_refl _⟩ (by decide) (c_X2_isMissing (hG.2.2.2.2.2.2.2.2.1 s hs).2 (fun c41 => ?_) (fun c41 => ?_))
      · refine aw_if_eq (tgt := 50) dX5_tells_44 (by decide) (fun zz => absurd zz (by decide)) (fun _ => ?_)
        refine aw_bipush (v := -11) dX5_tells_47 (by decide) ?_
        refine aw_ireturn (ty := .int) dX5_tells_49 rfl rfl ?_
        exact hM s p hs hp rfl rfl c41
      · refine aw_if_eq (tgt := 50) dX5_tells_44 (by decide) (fun _ => ?_) (fun zz => absurd zz (by decide))
        obtain ⟨z, hz4, hsz⟩ := hz s hs
        have hle : I (38 + 2 * s) 2 ≤ I 10 6 ↔ z ≤ n := by rw [hsz, hR.2.2.2.1]; exact nI_leI (by omega) (by omega)
        refine aw_aload dX5_tells_50 rfl rfl ?_
        refine aw_gi dX5_tells_52 fw_X5_220 (hG.2.2.2.2.2.2.2.2.1 s hs).2.1 ?_
        refine aw_aload_n dX5_tells_55 rfl rfl ?_
        refine aw_gr dX5_tells_56 fw_X5_28 hG.1 hG.2.2.2.1 ?_
        refine aw_gi dX5_tells_59 fw_X5_205 hG.2.2.2.2.2.2.2.2.2.1.1 ?_
        refine aw_icmp_le (tgt := 68) dX5_tells_62 (by decide) (fun c62 => ?_) (fun c62 => ?_)
        · have hzn := hle.mp c62
          refine aw_iload_n dX5_tells_68 rfl ?_
          refine aw_tableIn (off := 73) (tgt := 142) dX5_tells_69 (by decide) (by decide) (by rfl) (by decide) ?_
          refine aw_aload_n dX5_tells_142 rfl rfl ?_
          refine aw_aload dX5_tells_143 rfl rfl ?_
          refine aw_iload_n dX5_tells_145 rfl ?_
          refine aw_iconst (v := 0) dX5_tells_146 (by decide) ?_
          refine aw_V3 dX5_tells_147 cw_X5_231 ⟨_, _, rfl⟩ hG.1 (by omega) ⟨Nat.le_refl _, Nat.le_refl _⟩ (by decide) (c_X5_hoursOf0 (by omega) hG hR hm hm5 htq hs (show p < 5 by omega) hsz hzn (fun rX IX hX eX => ?_))
          refine aw_ireturn (ty := .int) dX5_tells_150 rfl rfl ?_
          exact hS s p z hs hp rfl rfl c41 hsz hzn _ _ hX eX
        · refine aw_bipush (v := -2) dX5_tells_65 (by decide) ?_
          refine aw_ireturn (ty := .int) dX5_tells_67 rfl rfl ?_
          exact hB2 s p z hs hp rfl rfl c41 hsz ⟨hz4, (Nat.not_le.mp (fun zz => c62 (hle.mpr zz)))⟩
    · refine aw_if_eq (tgt := 28) dX5_tells_15 (by decide) (fun _ => ?_) (fun zz => absurd zz (by decide))
      refine aw_bipush (v := -2) dX5_tells_28 (by decide) ?_
      refine aw_ireturn (ty := .int) dX5_tells_30 rfl rfl ?_
      exact hB (fun zz => c12 ((ix_iff hm (by omega)).mpr zz.2))
  · refine aw_if_eq (tgt := 28) dX5_tells_4 (by decide) (fun _ => ?_) (fun zz => absurd zz (by decide))
    refine aw_bipush (v := -2) dX5_tells_28 (by decide) ?_
    refine aw_ireturn (ty := .int) dX5_tells_30 rfl rfl ?_
    exact hB (fun zz => c1 zz.1)
theorem c_X5_tells4 {E : Ev} {d : Nat} {I : Mi} {L : Ml} {Z : Mz} {Q : Po} {x : Int32} {y : Int32} {N : Nat} {tA qA mA aA bA : Nat → Nat} {ru t q mm ma mb n m : Nat} (hd : 7 ≤ d) (hG : GZ Z) (hR : RD I Z 10 ru t q mm ma mb n) (hm : I 10 13 = nI m) (hm5 : m ≤ 5) (htq : 45 < t ∧ 45 < q) (hz : ∀ s, s < 4 → ∃ z, z ≤ 40 ∧ I (38 + 2 * s) 2 = nI z) (hTX : TXS I Z N tA qA mA aA bA) (hN1 : I 1 2 = nI N) (hN6 : N ≤ 6) (hB : ¬ ((¬ x < 0 ∧ ¬ 3 < x) ∧ (∃ j, j < m ∧ y = nI j)) → Q (some (.int (-2))) I L Z) (hM : ∀ s p, s < 4 → p < m → x = nI s → y = nI p → I (38 + 2 * s) 1 = -1 → Q (some (.int (-11))) I L Z) (hB2 : ∀ s p z, s < 4 → p < m → x = nI s → y = nI p → ¬ I (38 + 2 * s) 1 = -1 → I (38 + 2 * s) 2 = nI z → z ≤ 40 ∧ n < z → Q (some (.int (-2))) I L Z) (hS : ∀ s p z, s < 4 → p < m → x = nI s → y = nI p → ¬ I (38 + 2 * s) 1 = -1 → I (38 + 2 * s) 2 = nI z → z ≤ n → ∀ (rv : Int32) (I9 : Mi), ThX I I9 → rv = hlF (fun v => foS (I (38 + 2 * s + 1)) (rbV (iU (blM I 28 10) 28 2 (nI v)) 28 q ma mb mm p) z 0) 100 0 → Q (some (.int rv)) I9 L Z) : AC E yX5_tells cX5_tells 5 (some .int) d 0 0 [.ref 0, .int x, .int y, .int 4] I L Z Q := by
  refine ac_go (ls := [some (.ref 0), some (.int x), some (.int y), some (.int 4), none]) (by decide +kernel) (Nat.le_of_ble_eq_true rfl) rfl ?_
  have hn6 := hR.2.2.2.2.1
  refine aw_iload_n dX5_tells_0 rfl ?_
  refine aw_S1 dX5_tells_1 cw_X5_214 (by omega) ⟨Nat.le_refl _, Nat.le_refl _⟩ (by decide) (c_X5_isSheet (by omega) (fun c1 => ?_) (fun c1 => ?_))
  · refine aw_if_eq (tgt := 28) dX5_tells_4 (by decide) (fun zz => absurd zz (by decide)) (fun _ => ?_)
    refine aw_aload_n dX5_tells_7 rfl rfl ?_
    refine aw_gr dX5_tells_8 fw_X5_28 hG.1 hG.2.2.2.1 ?_
    refine aw_iload_n dX5_tells_11 rfl ?_
    refine aw_V1 dX5_tells_12 cw_X5_117 ⟨_, _, rfl⟩ hG.2.2.2.2.2.2.2.2.2.1.1 (by omega) ⟨Nat.le_refl _, Nat.le_refl _⟩ (by decide) (c_X0_hasReader hG.2.2.2.2.2.2.2.2.2.1 (fun c12 => ?_) (fun c12 => ?_))
    · refine aw_if_eq (tgt := 28) dX5_tells_15 (by decide) (fun zz => absurd zz (by decide)) (fun _ => ?_)
      refine aw_iload_n dX5_tells_18 rfl ?_
      refine aw_iconst (v := 0) dX5_tells_19 (by decide) ?_
      refine aw_bipush (v := 6) dX5_tells_20 (by decide) ?_
      refine aw_S3 dX5_tells_22 cw_X5_72 (by omega) ⟨Nat.le_refl _, Nat.le_refl _⟩ (by decide) (c_X5_within (fun _ => ?_) (fun zz => absurd (by decide) zz))
      refine aw_if_ne (tgt := 31) dX5_tells_25 (by decide) (fun _ => ?_) (fun zz => absurd zz (by decide))
      obtain ⟨s, hs, rfl⟩ := sh4 c1
      obtain ⟨p, hp, rfl⟩ := (ix_iff hm (by omega)).mp c12
      refine aw_aload_n dX5_tells_31 rfl rfl ?_
      refine aw_gr dX5_tells_32 fw_X5_40 hG.1 hG.2.2.2.2.2.2.1 ?_
      refine aw_iload_n dX5_tells_35 rfl ?_
      refine aw_ar s dX5_tells_36 hG.2.2.2.2.2.2.2.1 rfl hs (by decide) (hG.2.2.2.2.2.2.2.2.1 s hs).1 ?_
      refine aw_astore (ls' := [_, _, _, _, _]) dX5_tells_37 (by decide) rfl rfl rfl ?_
      refine aw_aload dX5_tells_39 rfl rfl ?_
      refine aw_V0 dX5_tells_41 cw_X5_217 ⟨_, _, rfl⟩ (hG.2.2.2.2.2.2.2.2.1 s hs).2.1 (by omega) ⟨Nat.le_refl _, Nat.le_refl _⟩ (by decide) (c_X2_isMissing (hG.2.2.2.2.2.2.2.2.1 s hs).2 (fun c41 => ?_) (fun c41 => ?_))
      · refine aw_if_eq (tgt := 50) dX5_tells_44 (by decide) (fun zz => absurd zz (by decide)) (fun _ => ?_)
        refine aw_bipush (v := -11) dX5_tells_47 (by decide) ?_
        refine aw_ireturn (ty := .int) dX5_tells_49 rfl rfl ?_
        exact hM s p hs hp rfl rfl c41
      · refine aw_if_eq (tgt := 50) dX5_tells_44 (by decide) (fun _ => ?_) (fun zz => absurd zz (by decide))
        obtain ⟨z, hz4, hsz⟩ := hz s hs
        have hle : I (38 + 2 * s) 2 ≤ I 10 6 ↔ z ≤ n := by rw [hsz, hR.2.2.2.1]; exact nI_leI (by omega) (by omega)
        refine aw_aload dX5_tells_50 rfl rfl ?_
        refine aw_gi dX5_tells_52 fw_X5_220 (hG.2.2.2.2.2.2.2.2.1 s hs).2.1 ?_
        refine aw_aload_n dX5_tells_55 rfl rfl ?_
        refine aw_gr dX5_tells_56 fw_X5_28 hG.1 hG.2.2.2.1 ?_
        refine aw_gi dX5_tells_59 fw_X5_205 hG.2.2.2.2.2.2.2.2.2.1.1 ?_
        refine aw_icmp_le (tgt := 68) dX5_tells_62 (by decide) (fun c62 => ?_) (fun c62 => ?_)
        · have hzn := hle.mp c62
          refine aw_iload_n dX5_tells_68 rfl ?_
          refine aw_tableIn (off := 82) (tgt := 151) dX5_tells_69 (by decide) (by decide) (by rfl) (by decide) ?_
          refine aw_aload_n dX5_tells_151 rfl rfl ?_
          refine aw_aload dX5_tells_152 rfl rfl ?_
          refine aw_iload_n dX5_tells_154 rfl ?_
          refine aw_iconst (v := 1) dX5_tells_155 (by decide) ?_
          refine aw_V3 dX5_tells_156 cw_X5_231 ⟨_, _, rfl⟩ hG.1 (by omega) ⟨Nat.le_refl _, Nat.le_refl _⟩ (by decide) (c_X5_hoursOf1 (by omega) hG hR hm hm5 htq hs (show p < 5 by omega) hsz hzn (fun rX IX hX eX => ?_))
          refine aw_ireturn (ty := .int) dX5_tells_159 rfl rfl ?_
          exact hS s p z hs hp rfl rfl c41 hsz hzn _ _ hX eX
        · refine aw_bipush (v := -2) dX5_tells_65 (by decide) ?_
          refine aw_ireturn (ty := .int) dX5_tells_67 rfl rfl ?_
          exact hB2 s p z hs hp rfl rfl c41 hsz ⟨hz4, (Nat.not_le.mp (fun zz => c62 (hle.mpr zz)))⟩
    · refine aw_if_eq (tgt := 28) dX5_tells_15 (by decide) (fun _ => ?_) (fun zz => absurd zz (by decide))
      refine aw_bipush (v := -2) dX5_tells_28 (by decide) ?_
      refine aw_ireturn (ty := .int) dX5_tells_30 rfl rfl ?_
      exact hB (fun zz => c12 ((ix_iff hm (by omega)).mpr zz.2))
  · refine aw_if_eq (tgt := 28) dX5_tells_4 (by decide) (fun _ => ?_) (fun zz => absurd zz (by decide))
    refine aw_bipush (v := -2) dX5_tells_28 (by decide) ?_
    refine aw_ireturn (ty := .int) dX5_tells_30 rfl rfl ?_
    exact hB (fun zz => c1 zz.1)
theorem c_X5_tells5 {E : Ev} {d : Nat} {I : Mi} {L : Ml} {Z : Mz} {Q : Po} {x : Int32} {y : Int32} {N : Nat} {tA qA mA aA bA : Nat → Nat} {ru t q mm ma mb n m : Nat} (hd : 7 ≤ d) (hG : GZ Z) (hR : RD I Z 10 ru t q mm ma mb n) (hm : I 10 13 = nI m) (hm5 : m ≤ 5) (htq : 45 < t ∧ 45 < q) (hz : ∀ s, s < 4 → ∃ z, z ≤ 40 ∧ I (38 + 2 * s) 2 = nI z) (hTX : TXS I Z N tA qA mA aA bA) (hN1 : I 1 2 = nI N) (hN6 : N ≤ 6) (hB : ¬ ((¬ x < 0 ∧ ¬ 3 < x) ∧ (∃ j, j < m ∧ y = nI j)) → Q (some (.int (-2))) I L Z) (hM : ∀ s p, s < 4 → p < m → x = nI s → y = nI p → I (38 + 2 * s) 1 = -1 → Q (some (.int (-11))) I L Z) (hB2 : ∀ s p z, s < 4 → p < m → x = nI s → y = nI p → ¬ I (38 + 2 * s) 1 = -1 → I (38 + 2 * s) 2 = nI z → z ≤ 40 ∧ n < z → Q (some (.int (-2))) I L Z) (hS : ∀ s p z, s < 4 → p < m → x = nI s → y = nI p → ¬ I (38 + 2 * s) 1 = -1 → I (38 + 2 * s) 2 = nI z → z ≤ n → ∀ (rv : Int32) (I9 : Mi), ThX I I9 → rv = btF (fun v => foS (I (38 + 2 * s + 1)) (rbV (iU (blM I 28 10) 28 3 (nI v)) 28 (qA v) (aA v) (bA v) (mA v) p) z 0) N 0 0 → Q (some (.int rv)) I9 L Z) : AC E yX5_tells cX5_tells 5 (some .int) d 0 0 [.ref 0, .int x, .int y, .int 5] I L Z Q := by
  refine ac_go (ls := [some (.ref 0), some (.int x), some (.int y), some (.int 5), none]) (by decide +kernel) (Nat.le_of_ble_eq_true rfl) rfl ?_
  have hn6 := hR.2.2.2.2.1
  refine aw_iload_n dX5_tells_0 rfl ?_
  refine aw_S1 dX5_tells_1 cw_X5_214 (by omega) ⟨Nat.le_refl _, Nat.le_refl _⟩ (by decide) (c_X5_isSheet (by omega) (fun c1 => ?_) (fun c1 => ?_))
  · refine aw_if_eq (tgt := 28) dX5_tells_4 (by decide) (fun zz => absurd zz (by decide)) (fun _ => ?_)
    refine aw_aload_n dX5_tells_7 rfl rfl ?_
    refine aw_gr dX5_tells_8 fw_X5_28 hG.1 hG.2.2.2.1 ?_
    refine aw_iload_n dX5_tells_11 rfl ?_
    refine aw_V1 dX5_tells_12 cw_X5_117 ⟨_, _, rfl⟩ hG.2.2.2.2.2.2.2.2.2.1.1 (by omega) ⟨Nat.le_refl _, Nat.le_refl _⟩ (by decide) (c_X0_hasReader hG.2.2.2.2.2.2.2.2.2.1 (fun c12 => ?_) (fun c12 => ?_))
    · refine aw_if_eq (tgt := 28) dX5_tells_15 (by decide) (fun zz => absurd zz (by decide)) (fun _ => ?_)
      refine aw_iload_n dX5_tells_18 rfl ?_
      refine aw_iconst (v := 0) dX5_tells_19 (by decide) ?_
      refine aw_bipush (v := 6) dX5_tells_20 (by decide) ?_
      refine aw_S3 dX5_tells_22 cw_X5_72 (by omega) ⟨Nat.le_refl _, Nat.le_refl _⟩ (by decide) (c_X5_within (fun _ => ?_) (fun zz => absurd (by decide) zz))
      refine aw_if_ne (tgt := 31) dX5_tells_25 (by decide) (fun _ => ?_) (fun zz => absurd zz (by decide))
      obtain ⟨s, hs, rfl⟩ := sh4 c1
      obtain ⟨p, hp, rfl⟩ := (ix_iff hm (by omega)).mp c12
      refine aw_aload_n dX5_tells_31 rfl rfl ?_
      refine aw_gr dX5_tells_32 fw_X5_40 hG.1 hG.2.2.2.2.2.2.1 ?_
      refine aw_iload_n dX5_tells_35 rfl ?_
      refine aw_ar s dX5_tells_36 hG.2.2.2.2.2.2.2.1 rfl hs (by decide) (hG.2.2.2.2.2.2.2.2.1 s hs).1 ?_
      refine aw_astore (ls' := [_, _, _, _, _]) dX5_tells_37 (by decide) rfl rfl rfl ?_
      refine aw_aload dX5_tells_39 rfl rfl ?_
      refine aw_V0 dX5_tells_41 cw_X5_217 ⟨_, _, rfl⟩ (hG.2.2.2.2.2.2.2.2.1 s hs).2.1 (by omega) ⟨Nat.le_refl _, Nat.le_refl _⟩ (by decide) (c_X2_isMissing (hG.2.2.2.2.2.2.2.2.1 s hs).2 (fun c41 => ?_) (fun c41 => ?_))
      · refine aw_if_eq (tgt := 50) dX5_tells_44 (by decide) (fun zz => absurd zz (by decide)) (fun _ => ?_)
        refine aw_bipush (v := -11) dX5_tells_47 (by decide) ?_
        refine aw_ireturn (ty := .int) dX5_tells_49 rfl rfl ?_
        exact hM s p hs hp rfl rfl c41
      · refine aw_if_eq (tgt := 50) dX5_tells_44 (by decide) (fun _ => ?_) (fun zz => absurd zz (by decide))
        obtain ⟨z, hz4, hsz⟩ := hz s hs
        have hle : I (38 + 2 * s) 2 ≤ I 10 6 ↔ z ≤ n := by rw [hsz, hR.2.2.2.1]; exact nI_leI (by omega) (by omega)
        refine aw_aload dX5_tells_50 rfl rfl ?_
        refine aw_gi dX5_tells_52 fw_X5_220 (hG.2.2.2.2.2.2.2.2.1 s hs).2.1 ?_
        refine aw_aload_n dX5_tells_55 rfl rfl ?_
        refine aw_gr dX5_tells_56 fw_X5_28 hG.1 hG.2.2.2.1 ?_
        refine aw_gi dX5_tells_59 fw_X5_205 hG.2.2.2.2.2.2.2.2.2.1.1 ?_
        refine aw_icmp_le (tgt := 68) dX5_tells_62 (by decide) (fun c62 => ?_) (fun c62 => ?_)
        · have hzn := hle.mp c62
          refine aw_iload_n dX5_tells_68 rfl ?_
          refine aw_tableIn (off := 91) (tgt := 160) dX5_tells_69 (by decide) (by decide) (by rfl) (by decide) ?_
          refine aw_aload_n dX5_tells_160 rfl rfl ?_
          refine aw_aload dX5_tells_161 rfl rfl ?_
          refine aw_iload_n dX5_tells_163 rfl ?_
          refine aw_bipush (v := 10) dX5_tells_164 (by decide) ?_
          refine aw_aload_n dX5_tells_166 rfl rfl ?_
          refine aw_gr dX5_tells_167 fw_X5_10 hG.1 hG.2.1 ?_
          refine aw_gi dX5_tells_170 fw_X5_147 hG.2.2.2.2.2.2.2.2.2.2.2.2.1.1 ?_
          rw [hN1]
          refine aw_V4 dX5_tells_173 cw_X5_227 ⟨_, _, rfl⟩ hG.1 (by omega) ⟨Nat.le_refl _, Nat.le_refl _⟩ (by decide) (c_X5_bitsOf10 (N := N) (by omega) hG hR hm hm5 htq hs (show p < 5 by omega) hsz hzn hTX hN6 (by omega) (fun rX IX hX eX => ?_))
          refine aw_ireturn (ty := .int) dX5_tells_176 rfl rfl ?_
          exact hS s p z hs hp rfl rfl c41 hsz hzn _ _ hX eX
        · refine aw_bipush (v := -2) dX5_tells_65 (by decide) ?_
          refine aw_ireturn (ty := .int) dX5_tells_67 rfl rfl ?_
          exact hB2 s p z hs hp rfl rfl c41 hsz ⟨hz4, (Nat.not_le.mp (fun zz => c62 (hle.mpr zz)))⟩
    · refine aw_if_eq (tgt := 28) dX5_tells_15 (by decide) (fun _ => ?_) (fun zz => absurd zz (by decide))
      refine aw_bipush (v := -2) dX5_tells_28 (by decide) ?_
      refine aw_ireturn (ty := .int) dX5_tells_30 rfl rfl ?_
      exact hB (fun zz => c12 ((ix_iff hm (by omega)).mpr zz.2))
  · refine aw_if_eq (tgt := 28) dX5_tells_4 (by decide) (fun _ => ?_) (fun zz => absurd zz (by decide))
    refine aw_bipush (v := -2) dX5_tells_28 (by decide) ?_
    refine aw_ireturn (ty := .int) dX5_tells_30 rfl rfl ?_
    exact hB (fun zz => c1 zz.1)
theorem c_X5_tells6 {E : Ev} {d : Nat} {I : Mi} {L : Ml} {Z : Mz} {Q : Po} {x : Int32} {y : Int32} {N : Nat} {tA qA mA aA bA : Nat → Nat} {ru t q mm ma mb n m : Nat} (hd : 7 ≤ d) (hG : GZ Z) (hR : RD I Z 10 ru t q mm ma mb n) (hm : I 10 13 = nI m) (hm5 : m ≤ 5) (htq : 45 < t ∧ 45 < q) (hz : ∀ s, s < 4 → ∃ z, z ≤ 40 ∧ I (38 + 2 * s) 2 = nI z) (hTX : TXS I Z N tA qA mA aA bA) (hN1 : I 1 2 = nI N) (hN6 : N ≤ 6) (hB : ¬ ((¬ x < 0 ∧ ¬ 3 < x) ∧ (∃ j, j < m ∧ y = nI j)) → Q (some (.int (-2))) I L Z) (hM : ∀ s p, s < 4 → p < m → x = nI s → y = nI p → I (38 + 2 * s) 1 = -1 → Q (some (.int (-11))) I L Z) (hB2 : ∀ s p z, s < 4 → p < m → x = nI s → y = nI p → ¬ I (38 + 2 * s) 1 = -1 → I (38 + 2 * s) 2 = nI z → z ≤ 40 ∧ n < z → Q (some (.int (-2))) I L Z) (hS : ∀ s p z, s < 4 → p < m → x = nI s → y = nI p → ¬ I (38 + 2 * s) 1 = -1 → I (38 + 2 * s) 2 = nI z → z ≤ n → ∀ (rv : Int32) (I9 : Mi), ThX I I9 → rv = btF (fun p => foS (I (38 + 2 * s + 1)) (rbV I 10 q ma mb mm p) z 0) m 0 0 → Q (some (.int rv)) I9 L Z) : AC E yX5_tells cX5_tells 5 (some .int) d 0 0 [.ref 0, .int x, .int y, .int 6] I L Z Q := by
  refine ac_go (ls := [some (.ref 0), some (.int x), some (.int y), some (.int 6), none]) (by decide +kernel) (Nat.le_of_ble_eq_true rfl) rfl ?_
  have hn6 := hR.2.2.2.2.1
  refine aw_iload_n dX5_tells_0 rfl ?_
  refine aw_S1 dX5_tells_1 cw_X5_214 (by omega) ⟨Nat.le_refl _, Nat.le_refl _⟩ (by decide) (c_X5_isSheet (by omega) (fun c1 => ?_) (fun c1 => ?_))
  · refine aw_if_eq (tgt := 28) dX5_tells_4 (by decide) (fun zz => absurd zz (by decide)) (fun _ => ?_)
    refine aw_aload_n dX5_tells_7 rfl rfl ?_
    refine aw_gr dX5_tells_8 fw_X5_28 hG.1 hG.2.2.2.1 ?_
    refine aw_iload_n dX5_tells_11 rfl ?_
    refine aw_V1 dX5_tells_12 cw_X5_117 ⟨_, _, rfl⟩ hG.2.2.2.2.2.2.2.2.2.1.1 (by omega) ⟨Nat.le_refl _, Nat.le_refl _⟩ (by decide) (c_X0_hasReader hG.2.2.2.2.2.2.2.2.2.1 (fun c12 => ?_) (fun c12 => ?_))
    · refine aw_if_eq (tgt := 28) dX5_tells_15 (by decide) (fun zz => absurd zz (by decide)) (fun _ => ?_)
      refine aw_iload_n dX5_tells_18 rfl ?_
      refine aw_iconst (v := 0) dX5_tells_19 (by decide) ?_
      refine aw_bipush (v := 6) dX5_tells_20 (by decide) ?_
      refine aw_S3 dX5_tells_22 cw_X5_72 (by omega) ⟨Nat.le_refl _, Nat.le_refl _⟩ (by decide) (c_X5_within (fun _ => ?_) (fun zz => absurd (by decide) zz))
      refine aw_if_ne (tgt := 31) dX5_tells_25 (by decide) (fun _ => ?_) (fun zz => absurd zz (by decide))
      obtain ⟨s, hs, rfl⟩ := sh4 c1
      obtain ⟨p, hp, rfl⟩ := (ix_iff hm (by omega)).mp c12
      refine aw_aload_n dX5_tells_31 rfl rfl ?_
      refine aw_gr dX5_tells_32 fw_X5_40 hG.1 hG.2.2.2.2.2.2.1 ?_
      refine aw_iload_n dX5_tells_35 rfl ?_
      refine aw_ar s dX5_tells_36 hG.2.2.2.2.2.2.2.1 rfl hs (by decide) (hG.2.2.2.2.2.2.2.2.1 s hs).1 ?_
      refine aw_astore (ls' := [_, _, _, _, _]) dX5_tells_37 (by decide) rfl rfl rfl ?_
      refine aw_aload dX5_tells_39 rfl rfl ?_
      refine aw_V0 dX5_tells_41 cw_X5_217 ⟨_, _, rfl⟩ (hG.2.2.2.2.2.2.2.2.1 s hs).2.1 (by omega) ⟨Nat.le_refl _, Nat.le_refl _⟩ (by decide) (c_X2_isMissing (hG.2.2.2.2.2.2.2.2.1 s hs).2 (fun c41 => ?_) (fun c41 => ?_))
      · refine aw_if_eq (tgt := 50) dX5_tells_44 (by decide) (fun zz => absurd zz (by decide)) (fun _ => ?_)
        refine aw_bipush (v := -11) dX5_tells_47 (by decide) ?_
        refine aw_ireturn (ty := .int) dX5_tells_49 rfl rfl ?_
        exact hM s p hs hp rfl rfl c41
      · refine aw_if_eq (tgt := 50) dX5_tells_44 (by decide) (fun _ => ?_) (fun zz => absurd zz (by decide))
        obtain ⟨z, hz4, hsz⟩ := hz s hs
        have hle : I (38 + 2 * s) 2 ≤ I 10 6 ↔ z ≤ n := by rw [hsz, hR.2.2.2.1]; exact nI_leI (by omega) (by omega)
        refine aw_aload dX5_tells_50 rfl rfl ?_
        refine aw_gi dX5_tells_52 fw_X5_220 (hG.2.2.2.2.2.2.2.2.1 s hs).2.1 ?_
        refine aw_aload_n dX5_tells_55 rfl rfl ?_
        refine aw_gr dX5_tells_56 fw_X5_28 hG.1 hG.2.2.2.1 ?_
        refine aw_gi dX5_tells_59 fw_X5_205 hG.2.2.2.2.2.2.2.2.2.1.1 ?_
        refine aw_icmp_le (tgt := 68) dX5_tells_62 (by decide) (fun c62 => ?_) (fun c62 => ?_)
        · have hzn := hle.mp c62
          refine aw_iload_n dX5_tells_68 rfl ?_
          refine aw_tableOut (tgt := 177) dX5_tells_69 (by decide) (by decide) ?_
          refine aw_aload_n dX5_tells_177 rfl rfl ?_
          refine aw_aload dX5_tells_178 rfl rfl ?_
          refine aw_V1 dX5_tells_180 cw_X5_235 ⟨_, _, rfl⟩ hG.1 (by omega) ⟨Nat.le_refl _, Nat.le_refl _⟩ (by decide) (c_X5_readersOf (by omega) hG hR hm hm5 htq hs hsz hzn (fun rX IX hX eX => ?_))
          refine aw_ireturn (ty := .int) dX5_tells_183 rfl rfl ?_
          exact hS s p z hs hp rfl rfl c41 hsz hzn _ _ hX eX
        · refine aw_bipush (v := -2) dX5_tells_65 (by decide) ?_
          refine aw_ireturn (ty := .int) dX5_tells_67 rfl rfl ?_
          exact hB2 s p z hs hp rfl rfl c41 hsz ⟨hz4, (Nat.not_le.mp (fun zz => c62 (hle.mpr zz)))⟩
    · refine aw_if_eq (tgt := 28) dX5_tells_15 (by decide) (fun _ => ?_) (fun zz => absurd zz (by decide))
      refine aw_bipush (v := -2) dX5_tells_28 (by decide) ?_
      refine aw_ireturn (ty := .int) dX5_tells_30 rfl rfl ?_
      exact hB (fun zz => c12 ((ix_iff hm (by omega)).mpr zz.2))
  · refine aw_if_eq (tgt := 28) dX5_tells_4 (by decide) (fun _ => ?_) (fun zz => absurd zz (by decide))
    refine aw_bipush (v := -2) dX5_tells_28 (by decide) ?_
    refine aw_ireturn (ty := .int) dX5_tells_30 rfl rfl ?_
    exact hB (fun zz => c1 zz.1)
theorem c_X5_tellsX {E : Ev} {d : Nat} {I : Mi} {L : Ml} {Z : Mz} {Q : Po} {x : Int32} {y : Int32} {w : Int32}  (hd : 4 ≤ d) (hG : GZ Z) (hw : ¬ (¬ w < 0 ∧ ¬ 6 < w)) (hB : Q (some (.int (-2))) I L Z) : AC E yX5_tells cX5_tells 5 (some .int) d 0 0 [.ref 0, .int x, .int y, .int w] I L Z Q := by
  refine ac_go (ls := [some (.ref 0), some (.int x), some (.int y), some (.int w), none]) (by decide +kernel) (Nat.le_of_ble_eq_true rfl) rfl ?_
  refine aw_iload_n dX5_tells_0 rfl ?_
  refine aw_S1 dX5_tells_1 cw_X5_214 (by omega) ⟨Nat.le_refl _, Nat.le_refl _⟩ (by decide) (c_X5_isSheet (by omega) (fun c1 => ?_) (fun c1 => ?_))
  · refine aw_if_eq (tgt := 28) dX5_tells_4 (by decide) (fun zz => absurd zz (by decide)) (fun _ => ?_)
    refine aw_aload_n dX5_tells_7 rfl rfl ?_
    refine aw_gr dX5_tells_8 fw_X5_28 hG.1 hG.2.2.2.1 ?_
    refine aw_iload_n dX5_tells_11 rfl ?_
    refine aw_V1 dX5_tells_12 cw_X5_117 ⟨_, _, rfl⟩ hG.2.2.2.2.2.2.2.2.2.1.1 (by omega) ⟨Nat.le_refl _, Nat.le_refl _⟩ (by decide) (c_X0_hasReader hG.2.2.2.2.2.2.2.2.2.1 (fun c12 => ?_) (fun c12 => ?_))
    · refine aw_if_eq (tgt := 28) dX5_tells_15 (by decide) (fun zz => absurd zz (by decide)) (fun _ => ?_)
      refine aw_iload_n dX5_tells_18 rfl ?_
      refine aw_iconst (v := 0) dX5_tells_19 (by decide) ?_
      refine aw_bipush (v := 6) dX5_tells_20 (by decide) ?_
      refine aw_S3 dX5_tells_22 cw_X5_72 (by omega) ⟨Nat.le_refl _, Nat.le_refl _⟩ (by decide) (c_X5_within (fun zz => absurd zz hw) (fun c22 => ?_))
      refine aw_if_ne (tgt := 31) dX5_tells_25 (by decide) (fun zz => absurd zz (by decide)) (fun _ => ?_)
      refine aw_bipush (v := -2) dX5_tells_28 (by decide) ?_
      refine aw_ireturn (ty := .int) dX5_tells_30 rfl rfl ?_
      exact hB
    · refine aw_if_eq (tgt := 28) dX5_tells_15 (by decide) (fun _ => ?_) (fun zz => absurd zz (by decide))
      refine aw_bipush (v := -2) dX5_tells_28 (by decide) ?_
      refine aw_ireturn (ty := .int) dX5_tells_30 rfl rfl ?_
      exact hB
  · refine aw_if_eq (tgt := 28) dX5_tells_4 (by decide) (fun _ => ?_) (fun zz => absurd zz (by decide))
    refine aw_bipush (v := -2) dX5_tells_28 (by decide) ?_
    refine aw_ireturn (ty := .int) dX5_tells_30 rfl rfl ?_
    exact hB

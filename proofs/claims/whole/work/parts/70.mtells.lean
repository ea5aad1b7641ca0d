/-! ===== the reference: tells, text ===== -/
def tlF (f : Nat → Int32) : Nat → Int32 → Int32 → Int32 → Int32 × Int32 × Int32
  | 0, a, c, l => (a, c, l)
  | k + 1, a, c, l => if f k = -1 then tlF f k (a ||| (if k < 10 then 1 <<< (nI k &&& 31) else 0)) (c + 1) (nI k) else tlF f k a c l
def oneP (W : Nat → Nat → (Nat → Int32) → Int32) : Nat → Nat → (Nat → Int32) → Int32 := W
theorem l_X6_tells1 {E : Ev} {d : Nat} {I : Mi} {Z : Mz} {Q : Po} {W : Nat → (Nat → Int32) → Int32} {ru n m : Nat} {p s z : Nat} {bf la : Int32} (hd : 46 ≤ d) (hM : MZ Z) (hR : RDM I W ru n m) (hp : p < m) (hs : s < 4) (hsz : I 62 s = nI z) (hzn : z ≤ n)  : ∀ (k : Nat) (a c l : Int32) (y : Int32) (M : Mi) (L : Ml), k ≤ 6 → SaM (iU I 54 p y) M → (∀ (J : Mi) (K2 : Ml) , SaM (iU I 54 p bf) J → Q (some (.int (tlF (fun v => foS (fun i => I 63 (40 * s + i)) (rbM (iU I 54 p (nI v)) W p) z 0) k a c l).1)) J K2 Z) → AW E yX6_tells cX6_tells 11 (some .int) (rmOf d 0 0) Q 0 0 197 [some (.ref 48), some (.int (nI s)), some (.int (nI p)), some (.int 1), some (.int 6), some (.int bf), some (.int la), some (.int a), some (.int c), some (.int l), some (.int (nI k - 1))] [] M L Z := by
  intro k
  induction k with
  | zero =>
    intro a c l y M L hk sM hQ
    have hm5 := hR.2.2.1.2
    refine aw_iload dX6_tells_197 rfl ?_
    refine aw_if_lt (tgt := 254) dX6_tells_199 (by decide) (fun c199 => ?_) (fun zz => absurd (by decide) zz)
    refine aw_aload_n dX6_tells_254 rfl rfl ?_
    refine aw_iload dX6_tells_255 rfl ?_
    refine aw_iload_n dX6_tells_257 rfl ?_
    refine aw_iload dX6_tells_258 rfl ?_
    refine aw_V3 dX6_tells_260 cw_X6_106 ⟨_, _, rfl⟩ hM.1 (by omega) ⟨Nat.le_refl _, Nat.le_refl _⟩ (by decide) (c_X6_lays6 (j := p) hM (by omega) ?_)
    refine aw_iload_n dX6_tells_263 rfl ?_
    refine aw_iconst (v := 3) dX6_tells_264 (by decide) ?_
    refine aw_icmp_ne (tgt := 273) dX6_tells_265 (by decide) (fun _ => ?_) (fun zz => absurd zz (by decide))
    refine aw_iload_n dX6_tells_273 rfl ?_
    refine aw_iconst (v := 4) dX6_tells_274 (by decide) ?_
    refine aw_icmp_ne (tgt := 283) dX6_tells_275 (by decide) (fun _ => ?_) (fun zz => absurd zz (by decide))
    refine aw_iload dX6_tells_283 rfl ?_
    refine aw_ireturn (ty := .int) dX6_tells_285 rfl rfl ?_
    refine hQ _ _ ?_
    have := sM.iu (a := 54) (k := p) (x := bf)
    rw [iU_two] at this
    exact this
  | succ k ih =>
    intro a c l y M L hk sM hQ
    have hm5 := hR.2.2.1.2
    rw [nI_pred]
    refine aw_iload dX6_tells_197 rfl ?_
    refine aw_if_lt (tgt := 254) dX6_tells_199 (by decide) (fun zz => absurd zz (nI_pos (by omega))) (fun c199 => ?_)
    refine aw_aload_n dX6_tells_202 rfl rfl ?_
    refine aw_iload dX6_tells_203 rfl ?_
    refine aw_iload_n dX6_tells_205 rfl ?_
    refine aw_iload dX6_tells_206 rfl ?_
    refine aw_V3 dX6_tells_208 cw_X6_106 ⟨_, _, rfl⟩ hM.1 (by omega) ⟨Nat.le_refl _, Nat.le_refl _⟩ (by decide) (c_X6_lays6 (j := p) hM (by omega) ?_)
    replace sM := sM.iu (a := 54) (k := p) (x := nI k)
    rw [iU_two] at sM
    have hRk : RDM (iU I 54 p (nI k)) W ru n m := by
      obtain ⟨⟨a1, a2, a3⟩, ⟨b1, b2⟩, ⟨c1, c2⟩, d1, e1, H, f1, f2⟩ := hR
      refine ⟨⟨by rw [iU_at (by omega)]; exact a1, a2, a3.eqv (by funext j; exact iU_at (by omega)) (by funext j; exact iU_at (by omega))⟩, ⟨by rw [iU_at (by omega)]; exact b1, b2⟩, ⟨by rw [iU_at (by omega)]; exact c1, c2⟩, fun c hc => by rw [iU_at (by omega)]; exact d1 c hc, fun q hq => ?_, H, f1, by rw [iU_at (by omega)]; exact f2⟩
      by_cases e : q = p
      · subst e; exact ⟨k, by omega, iU_same⟩
      · rw [iU_at (by omega)]; exact e1 q hq
    refine aw_aload_n dX6_tells_211 rfl rfl ?_
    refine aw_iload_n dX6_tells_212 rfl ?_
    refine aw_iload_n dX6_tells_213 rfl ?_
    refine aw_V2 dX6_tells_214 cw_X6_412 ⟨_, _, rfl⟩ hM.1 (by omega) ⟨Nat.le_refl _, Nat.le_refl _⟩ (by decide) (c_X6_firstOther (z := z) (by omega) hM (hRk.sam sM) hp hs (by rw [sM _ _ (by omega), iU_at (by omega)]; exact hsz) hzn (fun J1 K1 t1 => ?_))
    generalize hfo : foS (fun i => iU M 54 p (nI k) 63 (40 * s + i)) (rbM (iU M 54 p (nI k)) W p) z 0 = fo
    have efo : fo = foS (fun i => I 63 (40 * s + i)) (rbM (iU I 54 p (nI k)) W p) z 0 := by
      rw [← hfo, foS_sam sM, show (fun i => iU I 54 p (nI k) 63 (40 * s + i)) = (fun i => I 63 (40 * s + i)) from funext fun i => iU_at (by omega)]
    refine aw_iconst (v := -1) dX6_tells_217 (by decide) ?_
    refine aw_icmp_ne (tgt := 248) dX6_tells_218 (by decide) (fun c218 => ?_) (fun c218 => ?_)
    · refine aw_iinc (v := (nI k - 1)) (ls' := [_, _, _, _, _, _, _, _, _, _, _]) dX6_tells_248 rfl (dc1 _) (by decide) rfl rfl ?_
      refine aw_goto (tgt := 197) dX6_tells_251 (by decide) ?_
      refine ih _ _ _ _ _ _ (by omega) (sM.tr t1) (fun J K t => ?_)
      have hq := hQ J K t
      simp only [tlF] at hq
      rw [efo] at c218
      rw [if_neg c218] at hq
      exact hq
    · refine aw_iload dX6_tells_221 rfl ?_
      refine aw_iload dX6_tells_223 rfl ?_
      refine aw_bipush (v := 10) dX6_tells_225 (by decide) ?_
      refine aw_icmp_ge (tgt := 237) dX6_tells_227 (by decide) (fun c227 => ?_) (fun c227 => ?_)
      · refine aw_iconst (v := 0) dX6_tells_237 (by decide) ?_
        refine aw_ior dX6_tells_238 ?_
        refine aw_istore (ls' := [_, _, _, _, _, _, _, _, _, _, _]) dX6_tells_239 (by decide) rfl rfl ?_
        refine aw_iinc (v := (c + 1)) (ls' := [_, _, _, _, _, _, _, _, _, _, _]) dX6_tells_241 rfl rfl (by decide) rfl rfl ?_
        refine aw_iload dX6_tells_244 rfl ?_
        refine aw_istore (ls' := [_, _, _, _, _, _, _, _, _, _, _]) dX6_tells_246 (by decide) rfl rfl ?_
        refine aw_iinc (v := (nI k - 1)) (ls' := [_, _, _, _, _, _, _, _, _, _, _]) dX6_tells_248 rfl (dc1 _) (by decide) rfl rfl ?_
        refine aw_goto (tgt := 197) dX6_tells_251 (by decide) ?_
        have h10 : (10 : Int32) ≤ nI k ↔ 10 ≤ k := nI_leI (a := 10) (by decide) (by omega)
        refine ih _ _ _ _ _ _ (by omega) (sM.tr t1) (fun J K t => ?_)
        have hq := hQ J K t
        simp only [tlF] at hq
        rw [efo] at c218
        rw [if_pos c218] at hq
        first | (rw [if_neg (by have := h10.mp c227; omega)] at hq; exact hq) | (rw [if_pos (Nat.not_le.mp (fun w => c227 (h10.mpr w)))] at hq; exact hq)
      · refine aw_iconst (v := 1) dX6_tells_230 (by decide) ?_
        refine aw_iload dX6_tells_231 rfl ?_
        refine aw_ishl dX6_tells_233 ?_
        refine aw_goto (tgt := 238) dX6_tells_234 (by decide) ?_
        refine aw_ior dX6_tells_238 ?_
        refine aw_istore (ls' := [_, _, _, _, _, _, _, _, _, _, _]) dX6_tells_239 (by decide) rfl rfl ?_
        refine aw_iinc (v := (c + 1)) (ls' := [_, _, _, _, _, _, _, _, _, _, _]) dX6_tells_241 rfl rfl (by decide) rfl rfl ?_
        refine aw_iload dX6_tells_244 rfl ?_
        refine aw_istore (ls' := [_, _, _, _, _, _, _, _, _, _, _]) dX6_tells_246 (by decide) rfl rfl ?_
        refine aw_iinc (v := (nI k - 1)) (ls' := [_, _, _, _, _, _, _, _, _, _, _]) dX6_tells_248 rfl (dc1 _) (by decide) rfl rfl ?_
        refine aw_goto (tgt := 197) dX6_tells_251 (by decide) ?_
        have h10 : (10 : Int32) ≤ nI k ↔ 10 ≤ k := nI_leI (a := 10) (by decide) (by omega)
        refine ih _ _ _ _ _ _ (by omega) (sM.tr t1) (fun J K t => ?_)
        have hq := hQ J K t
        simp only [tlF] at hq
        rw [efo] at c218
        rw [if_pos c218] at hq
        first | (rw [if_neg (by have := h10.mp c227; omega)] at hq; exact hq) | (rw [if_pos (Nat.not_le.mp (fun w => c227 (h10.mpr w)))] at hq; exact hq)
theorem c_X6_tells1 {E : Ev} {d : Nat} {I : Mi} {L : Ml} {Z : Mz} {Q : Po} {x : Int32} {y : Int32} {W : Nat → (Nat → Int32) → Int32} {ru n m : Nat}  (hd : 46 ≤ d) (hM : MZ Z) (hR : RDM I W ru n m) (hz : ∀ s, s < 4 → ¬ I 60 s = 0 → ∃ z, z ≤ 40 ∧ I 62 s = nI z)  (hB : ¬ ((¬ x < 0 ∧ ¬ 3 < x) ∧ (∃ j, j < m ∧ y = nI j)) → Q (some (.int (-2))) I L Z) (hMs : ∀ s p, s < 4 → p < m → x = nI s → y = nI p → I 60 s = 0 → Q (some (.int (-11))) I L Z) (hB2 : ∀ s p z, s < 4 → p < m → x = nI s → y = nI p → ¬ I 60 s = 0 → I 62 s = nI z → z ≤ 40 ∧ n < z → Q (some (.int (-2))) I L Z) (hS : ∀ s p z, s < 4 → p < m → x = nI s → y = nI p → ¬ I 60 s = 0 → I 62 s = nI z → z ≤ n → ∀ (rv : Int32) (J : Mi) (K : Ml), SaM I J → rv = (tlF (fun v => foS (fun i => I 63 (40 * s + i)) (rbM (iU I 54 p (nI v)) W p) z 0) 6 0 0 (-1)).1 → Q (some (.int rv)) J K Z) : AC E yX6_tells cX6_tells 11 (some .int) d 0 0 [.ref 48, .int x, .int y, .int 1] I L Z Q := by
  refine ac_go (ls := [some (.ref 48), some (.int x), some (.int y), some (.int 1), none, none, none, none, none, none, none]) (by decide +kernel) (Nat.le_of_ble_eq_true rfl) rfl ?_
  refine aw_iload_n dX6_tells_0 rfl ?_
  refine aw_S1 dX6_tells_1 cw_X6_415 (by omega) ⟨Nat.le_refl _, Nat.le_refl _⟩ (by decide) (c_X6_isSheet (by omega) (fun c1 => ?_) (fun c1 => ?_))
  · refine aw_if_eq (tgt := 27) dX6_tells_4 (by decide) (fun zz => absurd zz (by decide)) (fun _ => ?_)
    refine aw_aload_n dX6_tells_7 rfl rfl ?_
    refine aw_iload_n dX6_tells_8 rfl ?_
    refine aw_V1 dX6_tells_9 cw_X6_86 ⟨_, _, rfl⟩ hM.1 (by omega) ⟨Nat.le_refl _, Nat.le_refl _⟩ (by decide) (c_X6_isOne (by omega) hM hR.2.2.1.1 hR.2.2.1.2 (fun c9 => ?_) (fun c9 => ?_))
    · refine aw_if_eq (tgt := 27) dX6_tells_12 (by decide) (fun zz => absurd zz (by decide)) (fun _ => ?_)
      refine aw_iload_n dX6_tells_15 rfl ?_
      refine aw_i2l dX6_tells_16 ?_
      refine aw_lconst (v := 0) dX6_tells_17 (by decide) ?_
      refine aw_ldc2 dX6_tells_18 kw_X6_418 ?_
      refine aw_S3 dX6_tells_21 cw_X6_73 (by omega) ⟨Nat.le_refl _, Nat.le_refl _⟩ (by decide) (c_X6_in (x := 1) (a := 0) (b := 6) rfl (by decide) (by decide) (fun c21 => ?_) (fun zz => absurd (by decide) zz))
      refine aw_if_ne (tgt := 30) dX6_tells_24 (by decide) (fun _ => ?_) (fun zz => absurd zz (by decide))
      obtain ⟨s, hs, rfl⟩ := sh4 c1
      obtain ⟨p, hp, rfl⟩ := c9
      have hn6 := hR.2.1.2
      have hm5 := hR.2.2.1.2
      refine aw_aload_n dX6_tells_30 rfl rfl ?_
      refine aw_gr dX6_tells_31 fw_X6_50 hM.1 hM.2.2.2.2.2.2.2.2.2.2.2.2.2.2.2.2.2.2.2.2.2.2.2.1 ?_
      refine aw_iload_n dX6_tells_34 rfl ?_
      refine aw_za s dX6_tells_35 hM.2.2.2.2.2.2.2.2.2.2.2.2.2.2.2.2.2.2.2.2.2.2.2.2.1 rfl hs (by decide) ?_
      refine aw_if_ne (tgt := 42) dX6_tells_36 (by decide) (fun c36 => ?_) (fun c36 => ?_)
      · obtain ⟨z, hz4, hsz⟩ := hz s hs c36
        have hle : I 62 s ≤ I 48 10 ↔ z ≤ n := by rw [hsz, hR.2.1.1]; exact nI_leI (by omega) (by omega)
        refine aw_aload_n dX6_tells_42 rfl rfl ?_
        refine aw_gr dX6_tells_43 fw_X6_57 hM.1 hM.2.2.2.2.2.2.2.2.2.2.2.2.2.2.2.2.2.2.2.2.2.2.2.2.2.2.2.1 ?_
        refine aw_iload_n dX6_tells_46 rfl ?_
        refine aw_ia s dX6_tells_47 hM.2.2.2.2.2.2.2.2.2.2.2.2.2.2.2.2.2.2.2.2.2.2.2.2.2.2.2.2.1 rfl hs (by decide) ?_
        refine aw_aload_n dX6_tells_48 rfl rfl ?_
        refine aw_gi dX6_tells_49 fw_X6_77 hM.1 ?_
        refine aw_icmp_le (tgt := 58) dX6_tells_52 (by decide) (fun c52 => ?_) (fun c52 => ?_)
        · have hzn := hle.mp c52
          refine aw_iload_n dX6_tells_58 rfl ?_
          refine aw_if_eq (tgt := 68) dX6_tells_59 (by decide) (fun zz => absurd zz (by decide)) (fun _ => ?_)
          refine aw_iload_n dX6_tells_62 rfl ?_
          refine aw_bipush (v := 6) dX6_tells_63 (by decide) ?_
          refine aw_icmp_ne (tgt := 87) dX6_tells_65 (by decide) (fun _ => ?_) (fun zz => absurd zz (by decide))
          refine aw_iload_n dX6_tells_87 rfl ?_
          refine aw_iconst (v := 1) dX6_tells_88 (by decide) ?_
          refine aw_icmp_ne (tgt := 97) dX6_tells_89 (by decide) (fun zz => absurd zz (by decide)) (fun _ => ?_)
          refine aw_bipush (v := 6) dX6_tells_92 (by decide) ?_
          refine aw_goto (tgt := 117) dX6_tells_94 (by decide) ?_
          refine aw_istore (ls' := [_, _, _, _, _, _, _, _, _, _, _]) dX6_tells_117 (by decide) rfl rfl ?_
          refine aw_iload dX6_tells_119 rfl ?_
          refine aw_bipush (v := 7) dX6_tells_121 (by decide) ?_
          refine aw_icmp_ne (tgt := 133) dX6_tells_123 (by decide) (fun _ => ?_) (fun zz => absurd zz (by decide))
          refine aw_aload_n dX6_tells_133 rfl rfl ?_
          refine aw_iload_n dX6_tells_134 rfl ?_
          refine aw_iload dX6_tells_135 rfl ?_
          refine aw_V2 dX6_tells_137 cw_X6_102 ⟨_, _, rfl⟩ hM.1 (by omega) ⟨Nat.le_refl _, Nat.le_refl _⟩ (by decide) (c_X6_told6 (by omega) hM hR.2.2.1.1 hR.2.2.1.2 (fun zz => absurd ⟨p, hp, rfl⟩ zz) (fun j2 hj2 e2 => ?_))
          have ej : p = j2 := (nI_eq (by omega) (by omega)).mp e2
          subst ej
          refine aw_istore (ls' := [_, _, _, _, _, _, _, _, _, _, _]) dX6_tells_140 (by decide) rfl rfl ?_
          refine aw_iload dX6_tells_142 rfl ?_
          refine aw_bipush (v := 7) dX6_tells_144 (by decide) ?_
          refine aw_icmp_ne (tgt := 158) dX6_tells_146 (by decide) (fun _ => ?_) (fun zz => absurd zz (by decide))
          refine aw_iload dX6_tells_158 rfl ?_
          refine aw_bipush (v := 6) dX6_tells_160 (by decide) ?_
          refine aw_icmp_ne (tgt := 169) dX6_tells_162 (by decide) (fun zz => absurd zz (by decide)) (fun _ => ?_)
          refine aw_iconst (v := 5) dX6_tells_165 (by decide) ?_
          refine aw_goto (tgt := 182) dX6_tells_166 (by decide) ?_
          refine aw_istore (ls' := [_, _, _, _, _, _, _, _, _, _, _]) dX6_tells_182 (by decide) rfl rfl ?_
          refine aw_iconst (v := 0) dX6_tells_184 (by decide) ?_
          refine aw_istore (ls' := [_, _, _, _, _, _, _, _, _, _, _]) dX6_tells_185 (by decide) rfl rfl ?_
          refine aw_iconst (v := 0) dX6_tells_187 (by decide) ?_
          refine aw_istore (ls' := [_, _, _, _, _, _, _, _, _, _, _]) dX6_tells_188 (by decide) rfl rfl ?_
          refine aw_iconst (v := -1) dX6_tells_190 (by decide) ?_
          refine aw_istore (ls' := [_, _, _, _, _, _, _, _, _, _, _]) dX6_tells_191 (by decide) rfl rfl ?_
          refine aw_iload dX6_tells_193 rfl ?_
          refine aw_istore (ls' := [_, _, _, _, _, _, _, _, _, _, _]) dX6_tells_195 (by decide) rfl rfl ?_
          have hz6 := hz4
          have e0 : (5 : Int32) = nI 6 - 1 := by decide
          have eI : iU I 54 p (I 54 p) = I := iU_slf
          refine (show ∀ X : Int32, X = nI 6 - 1 → AW E yX6_tells cX6_tells 11 (some .int) (rmOf d 0 0) Q 0 0 197 [some (.ref 48), some (.int (nI s)), some (.int (nI p)), some (.int 1), some (.int 6), some (.int (I 54 p)), some (.int X), some (.int 0), some (.int 0), some (.int (-1)), some (.int X)] [] I L Z from fun X eX => ?_) _ (by first | decide | rfl)
          subst eX
          refine l_X6_tells1 hd hM hR hp hs hsz hzn 6 0 0 (-1) (I 54 p) _ _ (Nat.le_refl _) (by rw [eI]; exact SaM.rf) (fun J K2 t => ?_)
          rw [eI] at t
          exact hS s p z hs hp rfl rfl c36 hsz hzn _ _ _ t rfl
        · refine aw_bipush (v := -2) dX6_tells_55 (by decide) ?_
          refine aw_ireturn (ty := .int) dX6_tells_57 rfl rfl ?_
          exact hB2 s p z hs hp rfl rfl c36 hsz ⟨hz4, (Nat.not_le.mp (fun w => c52 (hle.mpr w)))⟩
      · refine aw_bipush (v := -11) dX6_tells_39 (by decide) ?_
        refine aw_ireturn (ty := .int) dX6_tells_41 rfl rfl ?_
        exact hMs s p hs hp rfl rfl c36
    · refine aw_if_eq (tgt := 27) dX6_tells_12 (by decide) (fun _ => ?_) (fun zz => absurd zz (by decide))
      refine aw_bipush (v := -2) dX6_tells_27 (by decide) ?_
      refine aw_ireturn (ty := .int) dX6_tells_29 rfl rfl ?_
      exact hB (fun zz => c9 zz.2)
  · refine aw_if_eq (tgt := 27) dX6_tells_4 (by decide) (fun _ => ?_) (fun zz => absurd zz (by decide))
    refine aw_bipush (v := -2) dX6_tells_27 (by decide) ?_
    refine aw_ireturn (ty := .int) dX6_tells_29 rfl rfl ?_
    exact hB (fun zz => c1 zz.1)
theorem l_X6_tells2 {E : Ev} {d : Nat} {I : Mi} {Z : Mz} {Q : Po} {W : Nat → (Nat → Int32) → Int32} {ru n m : Nat} {p s z : Nat} {bf la : Int32} (hd : 46 ≤ d) (hM : MZ Z) (hR : RDM I W ru n m) (hp : p < m) (hs : s < 4) (hsz : I 62 s = nI z) (hzn : z ≤ n)  : ∀ (k : Nat) (a c l : Int32) (y : Int32) (M : Mi) (L : Ml), k ≤ 10 → SaM (iU I 55 (2 * p) y) M → (∀ (J : Mi) (K2 : Ml) , SaM (iU I 55 (2 * p) bf) J → Q (some (.int (tlF (fun v => foS (fun i => I 63 (40 * s + i)) (rbM (iU I 55 (2 * p) (nI v)) W p) z 0) k a c l).1)) J K2 Z) → AW E yX6_tells cX6_tells 11 (some .int) (rmOf d 0 0) Q 0 0 197 [some (.ref 48), some (.int (nI s)), some (.int (nI p)), some (.int 2), some (.int 4), some (.int bf), some (.int la), some (.int a), some (.int c), some (.int l), some (.int (nI k - 1))] [] M L Z := by
  intro k
  induction k with
  | zero =>
    intro a c l y M L hk sM hQ
    have hm5 := hR.2.2.1.2
    refine aw_iload dX6_tells_197 rfl ?_
    refine aw_if_lt (tgt := 254) dX6_tells_199 (by decide) (fun c199 => ?_) (fun zz => absurd (by decide) zz)
    refine aw_aload_n dX6_tells_254 rfl rfl ?_
    refine aw_iload dX6_tells_255 rfl ?_
    refine aw_iload_n dX6_tells_257 rfl ?_
    refine aw_iload dX6_tells_258 rfl ?_
    refine aw_V3 dX6_tells_260 cw_X6_106 ⟨_, _, rfl⟩ hM.1 (by omega) ⟨Nat.le_refl _, Nat.le_refl _⟩ (by decide) (c_X6_lays4 (j := p) hM (by omega) ?_)
    refine aw_iload_n dX6_tells_263 rfl ?_
    refine aw_iconst (v := 3) dX6_tells_264 (by decide) ?_
    refine aw_icmp_ne (tgt := 273) dX6_tells_265 (by decide) (fun _ => ?_) (fun zz => absurd zz (by decide))
    refine aw_iload_n dX6_tells_273 rfl ?_
    refine aw_iconst (v := 4) dX6_tells_274 (by decide) ?_
    refine aw_icmp_ne (tgt := 283) dX6_tells_275 (by decide) (fun _ => ?_) (fun zz => absurd zz (by decide))
    refine aw_iload dX6_tells_283 rfl ?_
    refine aw_ireturn (ty := .int) dX6_tells_285 rfl rfl ?_
    refine hQ _ _ ?_
    have := sM.iu (a := 55) (k := (2 * p)) (x := bf)
    rw [iU_two] at this
    exact this
  | succ k ih =>
    intro a c l y M L hk sM hQ
    have hm5 := hR.2.2.1.2
    rw [nI_pred]
    refine aw_iload dX6_tells_197 rfl ?_
    refine aw_if_lt (tgt := 254) dX6_tells_199 (by decide) (fun zz => absurd zz (nI_pos (by omega))) (fun c199 => ?_)
    refine aw_aload_n dX6_tells_202 rfl rfl ?_
    refine aw_iload dX6_tells_203 rfl ?_
    refine aw_iload_n dX6_tells_205 rfl ?_
    refine aw_iload dX6_tells_206 rfl ?_
    refine aw_V3 dX6_tells_208 cw_X6_106 ⟨_, _, rfl⟩ hM.1 (by omega) ⟨Nat.le_refl _, Nat.le_refl _⟩ (by decide) (c_X6_lays4 (j := p) hM (by omega) ?_)
    replace sM := sM.iu (a := 55) (k := (2 * p)) (x := nI k)
    rw [iU_two] at sM
    have hRk : RDM (iU I 55 (2 * p) (nI k)) W ru n m := by
      refine hR.eqv (iU_at (by omega)) (by funext j; exact iU_at (by omega)) (by funext j; exact iU_at (by omega)) (iU_at (by omega)) (iU_at (by omega)) (by funext j; exact iU_at (by omega)) (by funext j; exact iU_at (by omega)) ?_
      rw [iU_at (by omega)]
      exact hR.2.2.2.2.2
    refine aw_aload_n dX6_tells_211 rfl rfl ?_
    refine aw_iload_n dX6_tells_212 rfl ?_
    refine aw_iload_n dX6_tells_213 rfl ?_
    refine aw_V2 dX6_tells_214 cw_X6_412 ⟨_, _, rfl⟩ hM.1 (by omega) ⟨Nat.le_refl _, Nat.le_refl _⟩ (by decide) (c_X6_firstOther (z := z) (by omega) hM (hRk.sam sM) hp hs (by rw [sM _ _ (by omega), iU_at (by omega)]; exact hsz) hzn (fun J1 K1 t1 => ?_))
    generalize hfo : foS (fun i => iU M 55 (2 * p) (nI k) 63 (40 * s + i)) (rbM (iU M 55 (2 * p) (nI k)) W p) z 0 = fo
    have efo : fo = foS (fun i => I 63 (40 * s + i)) (rbM (iU I 55 (2 * p) (nI k)) W p) z 0 := by
      rw [← hfo, foS_sam sM, show (fun i => iU I 55 (2 * p) (nI k) 63 (40 * s + i)) = (fun i => I 63 (40 * s + i)) from funext fun i => iU_at (by omega)]
    refine aw_iconst (v := -1) dX6_tells_217 (by decide) ?_
    refine aw_icmp_ne (tgt := 248) dX6_tells_218 (by decide) (fun c218 => ?_) (fun c218 => ?_)
    · refine aw_iinc (v := (nI k - 1)) (ls' := [_, _, _, _, _, _, _, _, _, _, _]) dX6_tells_248 rfl (dc1 _) (by decide) rfl rfl ?_
      refine aw_goto (tgt := 197) dX6_tells_251 (by decide) ?_
      refine ih _ _ _ _ _ _ (by omega) (sM.tr t1) (fun J K t => ?_)
      have hq := hQ J K t
      simp only [tlF] at hq
      rw [efo] at c218
      rw [if_neg c218] at hq
      exact hq
    · refine aw_iload dX6_tells_221 rfl ?_
      refine aw_iload dX6_tells_223 rfl ?_
      refine aw_bipush (v := 10) dX6_tells_225 (by decide) ?_
      refine aw_icmp_ge (tgt := 237) dX6_tells_227 (by decide) (fun c227 => ?_) (fun c227 => ?_)
      · refine aw_iconst (v := 0) dX6_tells_237 (by decide) ?_
        refine aw_ior dX6_tells_238 ?_
        refine aw_istore (ls' := [_, _, _, _, _, _, _, _, _, _, _]) dX6_tells_239 (by decide) rfl rfl ?_
        refine aw_iinc (v := (c + 1)) (ls' := [_, _, _, _, _, _, _, _, _, _, _]) dX6_tells_241 rfl rfl (by decide) rfl rfl ?_
        refine aw_iload dX6_tells_244 rfl ?_
        refine aw_istore (ls' := [_, _, _, _, _, _, _, _, _, _, _]) dX6_tells_246 (by decide) rfl rfl ?_
        refine aw_iinc (v := (nI k - 1)) (ls' := [_, _, _, _, _, _, _, _, _, _, _]) dX6_tells_248 rfl (dc1 _) (by decide) rfl rfl ?_
        refine aw_goto (tgt := 197) dX6_tells_251 (by decide) ?_
        have h10 : (10 : Int32) ≤ nI k ↔ 10 ≤ k := nI_leI (a := 10) (by decide) (by omega)
        refine ih _ _ _ _ _ _ (by omega) (sM.tr t1) (fun J K t => ?_)
        have hq := hQ J K t
        simp only [tlF] at hq
        rw [efo] at c218
        rw [if_pos c218] at hq
        first | (rw [if_neg (by have := h10.mp c227; omega)] at hq; exact hq) | (rw [if_pos (Nat.not_le.mp (fun w => c227 (h10.mpr w)))] at hq; exact hq)
      · refine aw_iconst (v := 1) dX6_tells_230 (by decide) ?_
        refine aw_iload dX6_tells_231 rfl ?_
        refine aw_ishl dX6_tells_233 ?_
        refine aw_goto (tgt := 238) dX6_tells_234 (by decide) ?_
        refine aw_ior dX6_tells_238 ?_
        refine aw_istore (ls' := [_, _, _, _, _, _, _, _, _, _, _]) dX6_tells_239 (by decide) rfl rfl ?_
        refine aw_iinc (v := (c + 1)) (ls' := [_, _, _, _, _, _, _, _, _, _, _]) dX6_tells_241 rfl rfl (by decide) rfl rfl ?_
        refine aw_iload dX6_tells_244 rfl ?_
        refine aw_istore (ls' := [_, _, _, _, _, _, _, _, _, _, _]) dX6_tells_246 (by decide) rfl rfl ?_
        refine aw_iinc (v := (nI k - 1)) (ls' := [_, _, _, _, _, _, _, _, _, _, _]) dX6_tells_248 rfl (dc1 _) (by decide) rfl rfl ?_
        refine aw_goto (tgt := 197) dX6_tells_251 (by decide) ?_
        have h10 : (10 : Int32) ≤ nI k ↔ 10 ≤ k := nI_leI (a := 10) (by decide) (by omega)
        refine ih _ _ _ _ _ _ (by omega) (sM.tr t1) (fun J K t => ?_)
        have hq := hQ J K t
        simp only [tlF] at hq
        rw [efo] at c218
        rw [if_pos c218] at hq
        first | (rw [if_neg (by have := h10.mp c227; omega)] at hq; exact hq) | (rw [if_pos (Nat.not_le.mp (fun w => c227 (h10.mpr w)))] at hq; exact hq)
theorem c_X6_tells2 {E : Ev} {d : Nat} {I : Mi} {L : Ml} {Z : Mz} {Q : Po} {x : Int32} {y : Int32} {W : Nat → (Nat → Int32) → Int32} {ru n m : Nat}  (hd : 46 ≤ d) (hM : MZ Z) (hR : RDM I W ru n m) (hz : ∀ s, s < 4 → ¬ I 60 s = 0 → ∃ z, z ≤ 40 ∧ I 62 s = nI z)  (hB : ¬ ((¬ x < 0 ∧ ¬ 3 < x) ∧ (∃ j, j < m ∧ y = nI j)) → Q (some (.int (-2))) I L Z) (hMs : ∀ s p, s < 4 → p < m → x = nI s → y = nI p → I 60 s = 0 → Q (some (.int (-11))) I L Z) (hB2 : ∀ s p z, s < 4 → p < m → x = nI s → y = nI p → ¬ I 60 s = 0 → I 62 s = nI z → z ≤ 40 ∧ n < z → Q (some (.int (-2))) I L Z) (hS : ∀ s p z, s < 4 → p < m → x = nI s → y = nI p → ¬ I 60 s = 0 → I 62 s = nI z → z ≤ n → ∀ (rv : Int32) (J : Mi) (K : Ml), SaM I J → rv = (tlF (fun v => foS (fun i => I 63 (40 * s + i)) (rbM (iU I 55 (2 * p) (nI v)) W p) z 0) 10 0 0 (-1)).1 → Q (some (.int rv)) J K Z) : AC E yX6_tells cX6_tells 11 (some .int) d 0 0 [.ref 48, .int x, .int y, .int 2] I L Z Q := by
  refine ac_go (ls := [some (.ref 48), some (.int x), some (.int y), some (.int 2), none, none, none, none, none, none, none]) (by decide +kernel) (Nat.le_of_ble_eq_true rfl) rfl ?_
  refine aw_iload_n dX6_tells_0 rfl ?_
  refine aw_S1 dX6_tells_1 cw_X6_415 (by omega) ⟨Nat.le_refl _, Nat.le_refl _⟩ (by decide) (c_X6_isSheet (by omega) (fun c1 => ?_) (fun c1 => ?_))
  · refine aw_if_eq (tgt := 27) dX6_tells_4 (by decide) (fun zz => absurd zz (by decide)) (fun _ => ?_)
    refine aw_aload_n dX6_tells_7 rfl rfl ?_
    refine aw_iload_n dX6_tells_8 rfl ?_
    refine aw_V1 dX6_tells_9 cw_X6_86 ⟨_, _, rfl⟩ hM.1 (by omega) ⟨Nat.le_refl _, Nat.le_refl _⟩ (by decide) (c_X6_isOne (by omega) hM hR.2.2.1.1 hR.2.2.1.2 (fun c9 => ?_) (fun c9 => ?_))
    · refine aw_if_eq (tgt := 27) dX6_tells_12 (by decide) (fun zz => absurd zz (by decide)) (fun _ => ?_)
      refine aw_iload_n dX6_tells_15 rfl ?_
      refine aw_i2l dX6_tells_16 ?_
      refine aw_lconst (v := 0) dX6_tells_17 (by decide) ?_
      refine aw_ldc2 dX6_tells_18 kw_X6_418 ?_
      refine aw_S3 dX6_tells_21 cw_X6_73 (by omega) ⟨Nat.le_refl _, Nat.le_refl _⟩ (by decide) (c_X6_in (x := 2) (a := 0) (b := 6) rfl (by decide) (by decide) (fun c21 => ?_) (fun zz => absurd (by decide) zz))
      refine aw_if_ne (tgt := 30) dX6_tells_24 (by decide) (fun _ => ?_) (fun zz => absurd zz (by decide))
      obtain ⟨s, hs, rfl⟩ := sh4 c1
      obtain ⟨p, hp, rfl⟩ := c9
      have hn6 := hR.2.1.2
      have hm5 := hR.2.2.1.2
      refine aw_aload_n dX6_tells_30 rfl rfl ?_
      refine aw_gr dX6_tells_31 fw_X6_50 hM.1 hM.2.2.2.2.2.2.2.2.2.2.2.2.2.2.2.2.2.2.2.2.2.2.2.1 ?_
      refine aw_iload_n dX6_tells_34 rfl ?_
      refine aw_za s dX6_tells_35 hM.2.2.2.2.2.2.2.2.2.2.2.2.2.2.2.2.2.2.2.2.2.2.2.2.1 rfl hs (by decide) ?_
      refine aw_if_ne (tgt := 42) dX6_tells_36 (by decide) (fun c36 => ?_) (fun c36 => ?_)
      · obtain ⟨z, hz4, hsz⟩ := hz s hs c36
        have hle : I 62 s ≤ I 48 10 ↔ z ≤ n := by rw [hsz, hR.2.1.1]; exact nI_leI (by omega) (by omega)
        refine aw_aload_n dX6_tells_42 rfl rfl ?_
        refine aw_gr dX6_tells_43 fw_X6_57 hM.1 hM.2.2.2.2.2.2.2.2.2.2.2.2.2.2.2.2.2.2.2.2.2.2.2.2.2.2.2.1 ?_
        refine aw_iload_n dX6_tells_46 rfl ?_
        refine aw_ia s dX6_tells_47 hM.2.2.2.2.2.2.2.2.2.2.2.2.2.2.2.2.2.2.2.2.2.2.2.2.2.2.2.2.1 rfl hs (by decide) ?_
        refine aw_aload_n dX6_tells_48 rfl rfl ?_
        refine aw_gi dX6_tells_49 fw_X6_77 hM.1 ?_
        refine aw_icmp_le (tgt := 58) dX6_tells_52 (by decide) (fun c52 => ?_) (fun c52 => ?_)
        · have hzn := hle.mp c52
          refine aw_iload_n dX6_tells_58 rfl ?_
          refine aw_if_eq (tgt := 68) dX6_tells_59 (by decide) (fun zz => absurd zz (by decide)) (fun _ => ?_)
          refine aw_iload_n dX6_tells_62 rfl ?_
          refine aw_bipush (v := 6) dX6_tells_63 (by decide) ?_
          refine aw_icmp_ne (tgt := 87) dX6_tells_65 (by decide) (fun _ => ?_) (fun zz => absurd zz (by decide))
          refine aw_iload_n dX6_tells_87 rfl ?_
          refine aw_iconst (v := 1) dX6_tells_88 (by decide) ?_
          refine aw_icmp_ne (tgt := 97) dX6_tells_89 (by decide) (fun _ => ?_) (fun zz => absurd zz (by decide))
          refine aw_iload_n dX6_tells_97 rfl ?_
          refine aw_iconst (v := 2) dX6_tells_98 (by decide) ?_
          refine aw_icmp_ne (tgt := 106) dX6_tells_99 (by decide) (fun zz => absurd zz (by decide)) (fun _ => ?_)
          refine aw_iconst (v := 4) dX6_tells_102 (by decide) ?_
          refine aw_goto (tgt := 117) dX6_tells_103 (by decide) ?_
          refine aw_istore (ls' := [_, _, _, _, _, _, _, _, _, _, _]) dX6_tells_117 (by decide) rfl rfl ?_
          refine aw_iload dX6_tells_119 rfl ?_
          refine aw_bipush (v := 7) dX6_tells_121 (by decide) ?_
          refine aw_icmp_ne (tgt := 133) dX6_tells_123 (by decide) (fun _ => ?_) (fun zz => absurd zz (by decide))
          refine aw_aload_n dX6_tells_133 rfl rfl ?_
          refine aw_iload_n dX6_tells_134 rfl ?_
          refine aw_iload dX6_tells_135 rfl ?_
          refine aw_V2 dX6_tells_137 cw_X6_102 ⟨_, _, rfl⟩ hM.1 (by omega) ⟨Nat.le_refl _, Nat.le_refl _⟩ (by decide) (c_X6_told4 (by omega) hM hR.2.2.1.1 hR.2.2.1.2 (fun zz => absurd ⟨p, hp, rfl⟩ zz) (fun j2 hj2 e2 => ?_))
          have ej : p = j2 := (nI_eq (by omega) (by omega)).mp e2
          subst ej
          refine aw_istore (ls' := [_, _, _, _, _, _, _, _, _, _, _]) dX6_tells_140 (by decide) rfl rfl ?_
          refine aw_iload dX6_tells_142 rfl ?_
          refine aw_bipush (v := 7) dX6_tells_144 (by decide) ?_
          refine aw_icmp_ne (tgt := 158) dX6_tells_146 (by decide) (fun _ => ?_) (fun zz => absurd zz (by decide))
          refine aw_iload dX6_tells_158 rfl ?_
          refine aw_bipush (v := 6) dX6_tells_160 (by decide) ?_
          refine aw_icmp_ne (tgt := 169) dX6_tells_162 (by decide) (fun _ => ?_) (fun zz => absurd zz (by decide))
          refine aw_iload dX6_tells_169 rfl ?_
          refine aw_iconst (v := 4) dX6_tells_171 (by decide) ?_
          refine aw_icmp_ne (tgt := 180) dX6_tells_172 (by decide) (fun zz => absurd zz (by decide)) (fun _ => ?_)
          refine aw_bipush (v := 9) dX6_tells_175 (by decide) ?_
          refine aw_goto (tgt := 182) dX6_tells_177 (by decide) ?_
          refine aw_istore (ls' := [_, _, _, _, _, _, _, _, _, _, _]) dX6_tells_182 (by decide) rfl rfl ?_
          refine aw_iconst (v := 0) dX6_tells_184 (by decide) ?_
          refine aw_istore (ls' := [_, _, _, _, _, _, _, _, _, _, _]) dX6_tells_185 (by decide) rfl rfl ?_
          refine aw_iconst (v := 0) dX6_tells_187 (by decide) ?_
          refine aw_istore (ls' := [_, _, _, _, _, _, _, _, _, _, _]) dX6_tells_188 (by decide) rfl rfl ?_
          refine aw_iconst (v := -1) dX6_tells_190 (by decide) ?_
          refine aw_istore (ls' := [_, _, _, _, _, _, _, _, _, _, _]) dX6_tells_191 (by decide) rfl rfl ?_
          refine aw_iload dX6_tells_193 rfl ?_
          refine aw_istore (ls' := [_, _, _, _, _, _, _, _, _, _, _]) dX6_tells_195 (by decide) rfl rfl ?_
          have hz6 := hz4
          have e0 : (9 : Int32) = nI 10 - 1 := by decide
          have eI : iU I 55 (2 * p) (I 55 (2 * p)) = I := iU_slf
          refine (show ∀ X : Int32, X = nI 10 - 1 → AW E yX6_tells cX6_tells 11 (some .int) (rmOf d 0 0) Q 0 0 197 [some (.ref 48), some (.int (nI s)), some (.int (nI p)), some (.int 2), some (.int 4), some (.int (I 55 (2 * p))), some (.int X), some (.int 0), some (.int 0), some (.int (-1)), some (.int X)] [] I L Z from fun X eX => ?_) _ (by first | decide | rfl)
          subst eX
          refine l_X6_tells2 hd hM hR hp hs hsz hzn 10 0 0 (-1) (I 55 (2 * p)) _ _ (Nat.le_refl _) (by rw [eI]; exact SaM.rf) (fun J K2 t => ?_)
          rw [eI] at t
          exact hS s p z hs hp rfl rfl c36 hsz hzn _ _ _ t rfl
        · refine aw_bipush (v := -2) dX6_tells_55 (by decide) ?_
          refine aw_ireturn (ty := .int) dX6_tells_57 rfl rfl ?_
          exact hB2 s p z hs hp rfl rfl c36 hsz ⟨hz4, (Nat.not_le.mp (fun w => c52 (hle.mpr w)))⟩
      · refine aw_bipush (v := -11) dX6_tells_39 (by decide) ?_
        refine aw_ireturn (ty := .int) dX6_tells_41 rfl rfl ?_
        exact hMs s p hs hp rfl rfl c36
    · refine aw_if_eq (tgt := 27) dX6_tells_12 (by decide) (fun _ => ?_) (fun zz => absurd zz (by decide))
      refine aw_bipush (v := -2) dX6_tells_27 (by decide) ?_
      refine aw_ireturn (ty := .int) dX6_tells_29 rfl rfl ?_
      exact hB (fun zz => c9 zz.2)
  · refine aw_if_eq (tgt := 27) dX6_tells_4 (by decide) (fun _ => ?_) (fun zz => absurd zz (by decide))
    refine aw_bipush (v := -2) dX6_tells_27 (by decide) ?_
    refine aw_ireturn (ty := .int) dX6_tells_29 rfl rfl ?_
    exact hB (fun zz => c1 zz.1)
theorem l_X6_tells5 {E : Ev} {d : Nat} {I : Mi} {Z : Mz} {Q : Po} {W : Nat → (Nat → Int32) → Int32} {ru n m : Nat} {p s z : Nat} {bf la : Int32} (hd : 46 ≤ d) (hM : MZ Z) (hR : RDM I W ru n m) (hp : p < m) (hs : s < 4) (hsz : I 62 s = nI z) (hzn : z ≤ n) {WA : Nat → Nat → (Nat → Int32) → Int32} {N : Nat} (hTX : ∀ v, v < N → TXM I v (WA v)) (hN6 : N ≤ 6) : ∀ (k : Nat) (a c l : Int32) (y : Int32) (M : Mi) (L : Ml), k ≤ N → SaM (iU I 48 4 y) M → (∀ (J : Mi) (K2 : Ml) , SaM (iU I 48 4 bf) J → Q (some (.int (tlF (fun v => foS (fun i => I 63 (40 * s + i)) (rbM (iU I 48 4 (nI v)) (WA v) p) z 0) k a c l).1)) J K2 Z) → AW E yX6_tells cX6_tells 11 (some .int) (rmOf d 0 0) Q 0 0 197 [some (.ref 48), some (.int (nI s)), some (.int (nI p)), some (.int 5), some (.int 7), some (.int bf), some (.int la), some (.int a), some (.int c), some (.int l), some (.int (nI k - 1))] [] M L Z := by
  intro k
  induction k with
  | zero =>
    intro a c l y M L hk sM hQ
    have hm5 := hR.2.2.1.2
    refine aw_iload dX6_tells_197 rfl ?_
    refine aw_if_lt (tgt := 254) dX6_tells_199 (by decide) (fun c199 => ?_) (fun zz => absurd (by decide) zz)
    refine aw_aload_n dX6_tells_254 rfl rfl ?_
    refine aw_iload dX6_tells_255 rfl ?_
    refine aw_iload_n dX6_tells_257 rfl ?_
    refine aw_iload dX6_tells_258 rfl ?_
    refine aw_V3 dX6_tells_260 cw_X6_106 ⟨_, _, rfl⟩ hM.1 (by omega) ⟨Nat.le_refl _, Nat.le_refl _⟩ (by decide) (c_X6_lays7 hM ?_)
    refine aw_iload_n dX6_tells_263 rfl ?_
    refine aw_iconst (v := 3) dX6_tells_264 (by decide) ?_
    refine aw_icmp_ne (tgt := 273) dX6_tells_265 (by decide) (fun _ => ?_) (fun zz => absurd zz (by decide))
    refine aw_iload_n dX6_tells_273 rfl ?_
    refine aw_iconst (v := 4) dX6_tells_274 (by decide) ?_
    refine aw_icmp_ne (tgt := 283) dX6_tells_275 (by decide) (fun _ => ?_) (fun zz => absurd zz (by decide))
    refine aw_iload dX6_tells_283 rfl ?_
    refine aw_ireturn (ty := .int) dX6_tells_285 rfl rfl ?_
    refine hQ _ _ ?_
    have := sM.iu (a := 48) (k := 4) (x := bf)
    rw [iU_two] at this
    exact this
  | succ k ih =>
    intro a c l y M L hk sM hQ
    have hm5 := hR.2.2.1.2
    rw [nI_pred]
    refine aw_iload dX6_tells_197 rfl ?_
    refine aw_if_lt (tgt := 254) dX6_tells_199 (by decide) (fun zz => absurd zz (nI_pos (by omega))) (fun c199 => ?_)
    refine aw_aload_n dX6_tells_202 rfl rfl ?_
    refine aw_iload dX6_tells_203 rfl ?_
    refine aw_iload_n dX6_tells_205 rfl ?_
    refine aw_iload dX6_tells_206 rfl ?_
    refine aw_V3 dX6_tells_208 cw_X6_106 ⟨_, _, rfl⟩ hM.1 (by omega) ⟨Nat.le_refl _, Nat.le_refl _⟩ (by decide) (c_X6_lays7 hM ?_)
    replace sM := sM.iu (a := 48) (k := 4) (x := nI k)
    rw [iU_two] at sM
    have hRk : RDM (iU I 48 4 (nI k)) (WA k) k n m := by
      obtain ⟨⟨a1, a2, a3⟩, ⟨b1, b2⟩, ⟨c1, c2⟩, d1, e1, H, f1, f2⟩ := hR
      exact ⟨⟨iU_same, by omega, (hTX k (by omega)).eqv (by funext j; exact iU_at (by omega)) (by funext j; exact iU_at (by omega))⟩, ⟨by rw [iU_at (by omega)]; exact b1, b2⟩, ⟨by rw [iU_at (by omega)]; exact c1, c2⟩, fun c hc => by rw [iU_at (by omega)]; exact d1 c hc, fun q hq => by rw [iU_at (by omega)]; exact e1 q hq, H, f1, by rw [iU_at (by omega)]; exact f2⟩
    refine aw_aload_n dX6_tells_211 rfl rfl ?_
    refine aw_iload_n dX6_tells_212 rfl ?_
    refine aw_iload_n dX6_tells_213 rfl ?_
    refine aw_V2 dX6_tells_214 cw_X6_412 ⟨_, _, rfl⟩ hM.1 (by omega) ⟨Nat.le_refl _, Nat.le_refl _⟩ (by decide) (c_X6_firstOther (z := z) (by omega) hM (hRk.sam sM) hp hs (by rw [sM _ _ (by omega), iU_at (by omega)]; exact hsz) hzn (fun J1 K1 t1 => ?_))
    generalize hfo : foS (fun i => iU M 48 4 (nI k) 63 (40 * s + i)) (rbM (iU M 48 4 (nI k)) (WA k) p) z 0 = fo
    have efo : fo = foS (fun i => I 63 (40 * s + i)) (rbM (iU I 48 4 (nI k)) (WA k) p) z 0 := by
      rw [← hfo, foS_sam sM, show (fun i => iU I 48 4 (nI k) 63 (40 * s + i)) = (fun i => I 63 (40 * s + i)) from funext fun i => iU_at (by omega)]
    refine aw_iconst (v := -1) dX6_tells_217 (by decide) ?_
    refine aw_icmp_ne (tgt := 248) dX6_tells_218 (by decide) (fun c218 => ?_) (fun c218 => ?_)
    · refine aw_iinc (v := (nI k - 1)) (ls' := [_, _, _, _, _, _, _, _, _, _, _]) dX6_tells_248 rfl (dc1 _) (by decide) rfl rfl ?_
      refine aw_goto (tgt := 197) dX6_tells_251 (by decide) ?_
      refine ih _ _ _ _ _ _ (by omega) (sM.tr t1) (fun J K t => ?_)
      have hq := hQ J K t
      simp only [tlF] at hq
      rw [efo] at c218
      rw [if_neg c218] at hq
      exact hq
    · refine aw_iload dX6_tells_221 rfl ?_
      refine aw_iload dX6_tells_223 rfl ?_
      refine aw_bipush (v := 10) dX6_tells_225 (by decide) ?_
      refine aw_icmp_ge (tgt := 237) dX6_tells_227 (by decide) (fun c227 => ?_) (fun c227 => ?_)
      · refine aw_iconst (v := 0) dX6_tells_237 (by decide) ?_
        refine aw_ior dX6_tells_238 ?_
        refine aw_istore (ls' := [_, _, _, _, _, _, _, _, _, _, _]) dX6_tells_239 (by decide) rfl rfl ?_
        refine aw_iinc (v := (c + 1)) (ls' := [_, _, _, _, _, _, _, _, _, _, _]) dX6_tells_241 rfl rfl (by decide) rfl rfl ?_
        refine aw_iload dX6_tells_244 rfl ?_
        refine aw_istore (ls' := [_, _, _, _, _, _, _, _, _, _, _]) dX6_tells_246 (by decide) rfl rfl ?_
        refine aw_iinc (v := (nI k - 1)) (ls' := [_, _, _, _, _, _, _, _, _, _, _]) dX6_tells_248 rfl (dc1 _) (by decide) rfl rfl ?_
        refine aw_goto (tgt := 197) dX6_tells_251 (by decide) ?_
        have h10 : (10 : Int32) ≤ nI k ↔ 10 ≤ k := nI_leI (a := 10) (by decide) (by omega)
        refine ih _ _ _ _ _ _ (by omega) (sM.tr t1) (fun J K t => ?_)
        have hq := hQ J K t
        simp only [tlF] at hq
        rw [efo] at c218
        rw [if_pos c218] at hq
        first | (rw [if_neg (by have := h10.mp c227; omega)] at hq; exact hq) | (rw [if_pos (Nat.not_le.mp (fun w => c227 (h10.mpr w)))] at hq; exact hq)
      · refine aw_iconst (v := 1) dX6_tells_230 (by decide) ?_
        refine aw_iload dX6_tells_231 rfl ?_
        refine aw_ishl dX6_tells_233 ?_
        refine aw_goto (tgt := 238) dX6_tells_234 (by decide) ?_
        refine aw_ior dX6_tells_238 ?_
        refine aw_istore (ls' := [_, _, _, _, _, _, _, _, _, _, _]) dX6_tells_239 (by decide) rfl rfl ?_
        refine aw_iinc (v := (c + 1)) (ls' := [_, _, _, _, _, _, _, _, _, _, _]) dX6_tells_241 rfl rfl (by decide) rfl rfl ?_
        refine aw_iload dX6_tells_244 rfl ?_
        refine aw_istore (ls' := [_, _, _, _, _, _, _, _, _, _, _]) dX6_tells_246 (by decide) rfl rfl ?_
        refine aw_iinc (v := (nI k - 1)) (ls' := [_, _, _, _, _, _, _, _, _, _, _]) dX6_tells_248 rfl (dc1 _) (by decide) rfl rfl ?_
        refine aw_goto (tgt := 197) dX6_tells_251 (by decide) ?_
        have h10 : (10 : Int32) ≤ nI k ↔ 10 ≤ k := nI_leI (a := 10) (by decide) (by omega)
        refine ih _ _ _ _ _ _ (by omega) (sM.tr t1) (fun J K t => ?_)
        have hq := hQ J K t
        simp only [tlF] at hq
        rw [efo] at c218
        rw [if_pos c218] at hq
        first | (rw [if_neg (by have := h10.mp c227; omega)] at hq; exact hq) | (rw [if_pos (Nat.not_le.mp (fun w => c227 (h10.mpr w)))] at hq; exact hq)
theorem c_X6_tells5 {E : Ev} {d : Nat} {I : Mi} {L : Ml} {Z : Mz} {Q : Po} {x : Int32} {y : Int32} {W : Nat → (Nat → Int32) → Int32} {ru n m : Nat} {WA : Nat → Nat → (Nat → Int32) → Int32} {N : Nat} (hd : 46 ≤ d) (hM : MZ Z) (hR : RDM I W ru n m) (hz : ∀ s, s < 4 → ¬ I 60 s = 0 → ∃ z, z ≤ 40 ∧ I 62 s = nI z) (hTX : ∀ v, v < N → TXM I v (WA v)) (hN1 : I 48 3 = nI N) (hN6 : N ≤ 6) (hB : ¬ ((¬ x < 0 ∧ ¬ 3 < x) ∧ (∃ j, j < m ∧ y = nI j)) → Q (some (.int (-2))) I L Z) (hMs : ∀ s p, s < 4 → p < m → x = nI s → y = nI p → I 60 s = 0 → Q (some (.int (-11))) I L Z) (hB2 : ∀ s p z, s < 4 → p < m → x = nI s → y = nI p → ¬ I 60 s = 0 → I 62 s = nI z → z ≤ 40 ∧ n < z → Q (some (.int (-2))) I L Z) (hS : ∀ s p z, s < 4 → p < m → x = nI s → y = nI p → ¬ I 60 s = 0 → I 62 s = nI z → z ≤ n → ∀ (rv : Int32) (J : Mi) (K : Ml), SaM I J → rv = (tlF (fun v => foS (fun i => I 63 (40 * s + i)) (rbM (iU I 48 4 (nI v)) (WA v) p) z 0) N 0 0 (-1)).1 → Q (some (.int rv)) J K Z) : AC E yX6_tells cX6_tells 11 (some .int) d 0 0 [.ref 48, .int x, .int y, .int 5] I L Z Q := by
  refine ac_go (ls := [some (.ref 48), some (.int x), some (.int y), some (.int 5), none, none, none, none, none, none, none]) (by decide +kernel) (Nat.le_of_ble_eq_true rfl) rfl ?_
  refine aw_iload_n dX6_tells_0 rfl ?_
  refine aw_S1 dX6_tells_1 cw_X6_415 (by omega) ⟨Nat.le_refl _, Nat.le_refl _⟩ (by decide) (c_X6_isSheet (by omega) (fun c1 => ?_) (fun c1 => ?_))
  · refine aw_if_eq (tgt := 27) dX6_tells_4 (by decide) (fun zz => absurd zz (by decide)) (fun _ => ?_)
    refine aw_aload_n dX6_tells_7 rfl rfl ?_
    refine aw_iload_n dX6_tells_8 rfl ?_
    refine aw_V1 dX6_tells_9 cw_X6_86 ⟨_, _, rfl⟩ hM.1 (by omega) ⟨Nat.le_refl _, Nat.le_refl _⟩ (by decide) (c_X6_isOne (by omega) hM hR.2.2.1.1 hR.2.2.1.2 (fun c9 => ?_) (fun c9 => ?_))
    · refine aw_if_eq (tgt := 27) dX6_tells_12 (by decide) (fun zz => absurd zz (by decide)) (fun _ => ?_)
      refine aw_iload_n dX6_tells_15 rfl ?_
      refine aw_i2l dX6_tells_16 ?_
      refine aw_lconst (v := 0) dX6_tells_17 (by decide) ?_
      refine aw_ldc2 dX6_tells_18 kw_X6_418 ?_
      refine aw_S3 dX6_tells_21 cw_X6_73 (by omega) ⟨Nat.le_refl _, Nat.le_refl _⟩ (by decide) (c_X6_in (x := 5) (a := 0) (b := 6) rfl (by decide) (by decide) (fun c21 => ?_) (fun zz => absurd (by decide) zz))
      refine aw_if_ne (tgt := 30) dX6_tells_24 (by decide) (fun _ => ?_) (fun zz => absurd zz (by decide))
      obtain ⟨s, hs, rfl⟩ := sh4 c1
      obtain ⟨p, hp, rfl⟩ := c9
      have hn6 := hR.2.1.2
      have hm5 := hR.2.2.1.2
      refine aw_aload_n dX6_tells_30 rfl rfl ?_
      refine aw_gr dX6_tells_31 fw_X6_50 hM.1 hM.2.2.2.2.2.2.2.2.2.2.2.2.2.2.2.2.2.2.2.2.2.2.2.1 ?_
      refine aw_iload_n dX6_tells_34 rfl ?_
      refine aw_za s dX6_tells_35 hM.2.2.2.2.2.2.2.2.2.2.2.2.2.2.2.2.2.2.2.2.2.2.2.2.1 rfl hs (by decide) ?_
      refine aw_if_ne (tgt := 42) dX6_tells_36 (by decide) (fun c36 => ?_) (fun c36 => ?_)
      · obtain ⟨z, hz4, hsz⟩ := hz s hs c36
        have hle : I 62 s ≤ I 48 10 ↔ z ≤ n := by rw [hsz, hR.2.1.1]; exact nI_leI (by omega) (by omega)
        refine aw_aload_n dX6_tells_42 rfl rfl ?_
        refine aw_gr dX6_tells_43 fw_X6_57 hM.1 hM.2.2.2.2.2.2.2.2.2.2.2.2.2.2.2.2.2.2.2.2.2.2.2.2.2.2.2.1 ?_
        refine aw_iload_n dX6_tells_46 rfl ?_
        refine aw_ia s dX6_tells_47 hM.2.2.2.2.2.2.2.2.2.2.2.2.2.2.2.2.2.2.2.2.2.2.2.2.2.2.2.2.1 rfl hs (by decide) ?_
        refine aw_aload_n dX6_tells_48 rfl rfl ?_
        refine aw_gi dX6_tells_49 fw_X6_77 hM.1 ?_
        refine aw_icmp_le (tgt := 58) dX6_tells_52 (by decide) (fun c52 => ?_) (fun c52 => ?_)
        · have hzn := hle.mp c52
          refine aw_iload_n dX6_tells_58 rfl ?_
          refine aw_if_eq (tgt := 68) dX6_tells_59 (by decide) (fun zz => absurd zz (by decide)) (fun _ => ?_)
          refine aw_iload_n dX6_tells_62 rfl ?_
          refine aw_bipush (v := 6) dX6_tells_63 (by decide) ?_
          refine aw_icmp_ne (tgt := 87) dX6_tells_65 (by decide) (fun _ => ?_) (fun zz => absurd zz (by decide))
          refine aw_iload_n dX6_tells_87 rfl ?_
          refine aw_iconst (v := 1) dX6_tells_88 (by decide) ?_
          refine aw_icmp_ne (tgt := 97) dX6_tells_89 (by decide) (fun _ => ?_) (fun zz => absurd zz (by decide))
          refine aw_iload_n dX6_tells_97 rfl ?_
          refine aw_iconst (v := 2) dX6_tells_98 (by decide) ?_
          refine aw_icmp_ne (tgt := 106) dX6_tells_99 (by decide) (fun _ => ?_) (fun zz => absurd zz (by decide))
          refine aw_iload_n dX6_tells_106 rfl ?_
          refine aw_iconst (v := 5) dX6_tells_107 (by decide) ?_
          refine aw_icmp_ne (tgt := 116) dX6_tells_108 (by decide) (fun zz => absurd zz (by decide)) (fun _ => ?_)
          refine aw_bipush (v := 7) dX6_tells_111 (by decide) ?_
          refine aw_goto (tgt := 117) dX6_tells_113 (by decide) ?_
          refine aw_istore (ls' := [_, _, _, _, _, _, _, _, _, _, _]) dX6_tells_117 (by decide) rfl rfl ?_
          refine aw_iload dX6_tells_119 rfl ?_
          refine aw_bipush (v := 7) dX6_tells_121 (by decide) ?_
          refine aw_icmp_ne (tgt := 133) dX6_tells_123 (by decide) (fun zz => absurd zz (by decide)) (fun _ => ?_)
          refine aw_aload_n dX6_tells_126 rfl rfl ?_
          refine aw_gi dX6_tells_127 fw_X6_116 hM.1 ?_
          refine aw_goto (tgt := 140) dX6_tells_130 (by decide) ?_
          refine aw_istore (ls' := [_, _, _, _, _, _, _, _, _, _, _]) dX6_tells_140 (by decide) rfl rfl ?_
          refine aw_iload dX6_tells_142 rfl ?_
          refine aw_bipush (v := 7) dX6_tells_144 (by decide) ?_
          refine aw_icmp_ne (tgt := 158) dX6_tells_146 (by decide) (fun zz => absurd zz (by decide)) (fun _ => ?_)
          refine aw_aload_n dX6_tells_149 rfl rfl ?_
          refine aw_gi dX6_tells_150 fw_X6_67 hM.1 ?_
          refine aw_iconst (v := 1) dX6_tells_153 (by decide) ?_
          refine aw_isub dX6_tells_154 ?_
          refine aw_goto (tgt := 182) dX6_tells_155 (by decide) ?_
          refine aw_istore (ls' := [_, _, _, _, _, _, _, _, _, _, _]) dX6_tells_182 (by decide) rfl rfl ?_
          refine aw_iconst (v := 0) dX6_tells_184 (by decide) ?_
          refine aw_istore (ls' := [_, _, _, _, _, _, _, _, _, _, _]) dX6_tells_185 (by decide) rfl rfl ?_
          refine aw_iconst (v := 0) dX6_tells_187 (by decide) ?_
          refine aw_istore (ls' := [_, _, _, _, _, _, _, _, _, _, _]) dX6_tells_188 (by decide) rfl rfl ?_
          refine aw_iconst (v := -1) dX6_tells_190 (by decide) ?_
          refine aw_istore (ls' := [_, _, _, _, _, _, _, _, _, _, _]) dX6_tells_191 (by decide) rfl rfl ?_
          refine aw_iload dX6_tells_193 rfl ?_
          refine aw_istore (ls' := [_, _, _, _, _, _, _, _, _, _, _]) dX6_tells_195 (by decide) rfl rfl ?_
          have hz6 := hz4
          rw [hN1]
          have eI : iU I 48 4 (I 48 4) = I := iU_slf
          refine (show ∀ X : Int32, X = nI N - 1 → AW E yX6_tells cX6_tells 11 (some .int) (rmOf d 0 0) Q 0 0 197 [some (.ref 48), some (.int (nI s)), some (.int (nI p)), some (.int 5), some (.int 7), some (.int (I 48 4)), some (.int X), some (.int 0), some (.int 0), some (.int (-1)), some (.int X)] [] I L Z from fun X eX => ?_) _ (by first | decide | rfl)
          subst eX
          refine l_X6_tells5 hd hM hR hp hs hsz hzn hTX hN6 N 0 0 (-1) (I 48 4) _ _ (Nat.le_refl _) (by rw [eI]; exact SaM.rf) (fun J K2 t => ?_)
          rw [eI] at t
          exact hS s p z hs hp rfl rfl c36 hsz hzn _ _ _ t rfl
        · refine aw_bipush (v := -2) dX6_tells_55 (by decide) ?_
          refine aw_ireturn (ty := .int) dX6_tells_57 rfl rfl ?_
          exact hB2 s p z hs hp rfl rfl c36 hsz ⟨hz4, (Nat.not_le.mp (fun w => c52 (hle.mpr w)))⟩
      · refine aw_bipush (v := -11) dX6_tells_39 (by decide) ?_
        refine aw_ireturn (ty := .int) dX6_tells_41 rfl rfl ?_
        exact hMs s p hs hp rfl rfl c36
    · refine aw_if_eq (tgt := 27) dX6_tells_12 (by decide) (fun _ => ?_) (fun zz => absurd zz (by decide))
      refine aw_bipush (v := -2) dX6_tells_27 (by decide) ?_
      refine aw_ireturn (ty := .int) dX6_tells_29 rfl rfl ?_
      exact hB (fun zz => c9 zz.2)
  · refine aw_if_eq (tgt := 27) dX6_tells_4 (by decide) (fun _ => ?_) (fun zz => absurd zz (by decide))
    refine aw_bipush (v := -2) dX6_tells_27 (by decide) ?_
    refine aw_ireturn (ty := .int) dX6_tells_29 rfl rfl ?_
    exact hB (fun zz => c1 zz.1)
theorem l_X6_tells3 {E : Ev} {d : Nat} {I : Mi} {Z : Mz} {Q : Po} {W : Nat → (Nat → Int32) → Int32} {ru n m : Nat} {p s z : Nat} {bf la : Int32} (hd : 46 ≤ d) (hM : MZ Z) (hR : RDM I W ru n m) (hp : p < m) (hs : s < 4) (hsz : I 62 s = nI z) (hzn : z ≤ n)  : ∀ (k : Nat) (a c l : Int32) (y : Int32) (M : Mi) (L : Ml), k ≤ 100 → SaM (iU I 48 8 y) M → (∀ (J : Mi) (K2 : Ml) , SaM (iU I 48 8 bf) J → Q (some (.int (tlF (fun v => foS (fun i => I 63 (40 * s + i)) (rbM (iU I 48 8 (nI v)) W p) z 0) k a c l).2.1)) J K2 Z) → AW E yX6_tells cX6_tells 11 (some .int) (rmOf d 0 0) Q 0 0 197 [some (.ref 48), some (.int (nI s)), some (.int (nI p)), some (.int 3), some (.int 1), some (.int bf), some (.int la), some (.int a), some (.int c), some (.int l), some (.int (nI k - 1))] [] M L Z := by
  intro k
  induction k with
  | zero =>
    intro a c l y M L hk sM hQ
    have hm5 := hR.2.2.1.2
    refine aw_iload dX6_tells_197 rfl ?_
    refine aw_if_lt (tgt := 254) dX6_tells_199 (by decide) (fun c199 => ?_) (fun zz => absurd (by decide) zz)
    refine aw_aload_n dX6_tells_254 rfl rfl ?_
    refine aw_iload dX6_tells_255 rfl ?_
    refine aw_iload_n dX6_tells_257 rfl ?_
    refine aw_iload dX6_tells_258 rfl ?_
    refine aw_V3 dX6_tells_260 cw_X6_106 ⟨_, _, rfl⟩ hM.1 (by omega) ⟨Nat.le_refl _, Nat.le_refl _⟩ (by decide) (c_X6_lays1 hM ?_)
    refine aw_iload_n dX6_tells_263 rfl ?_
    refine aw_iconst (v := 3) dX6_tells_264 (by decide) ?_
    refine aw_icmp_ne (tgt := 273) dX6_tells_265 (by decide) (fun zz => absurd zz (by decide)) (fun _ => ?_)
    refine aw_iload dX6_tells_268 rfl ?_
    refine aw_goto (tgt := 285) dX6_tells_270 (by decide) ?_
    refine aw_ireturn (ty := .int) dX6_tells_285 rfl rfl ?_
    refine hQ _ _ ?_
    have := sM.iu (a := 48) (k := 8) (x := bf)
    rw [iU_two] at this
    exact this
  | succ k ih =>
    intro a c l y M L hk sM hQ
    have hm5 := hR.2.2.1.2
    rw [nI_pred]
    refine aw_iload dX6_tells_197 rfl ?_
    refine aw_if_lt (tgt := 254) dX6_tells_199 (by decide) (fun zz => absurd zz (nI_pos (by omega))) (fun c199 => ?_)
    refine aw_aload_n dX6_tells_202 rfl rfl ?_
    refine aw_iload dX6_tells_203 rfl ?_
    refine aw_iload_n dX6_tells_205 rfl ?_
    refine aw_iload dX6_tells_206 rfl ?_
    refine aw_V3 dX6_tells_208 cw_X6_106 ⟨_, _, rfl⟩ hM.1 (by omega) ⟨Nat.le_refl _, Nat.le_refl _⟩ (by decide) (c_X6_lays1 hM ?_)
    replace sM := sM.iu (a := 48) (k := 8) (x := nI k)
    rw [iU_two] at sM
    have hRk : RDM (iU I 48 8 (nI k)) W ru n m := hR.eqv (iU_at (by omega)) (by funext j; exact iU_at (by omega)) (by funext j; exact iU_at (by omega)) (iU_at (by omega)) (iU_at (by omega)) (by funext j; exact iU_at (by omega)) (by funext j; exact iU_at (by omega)) ⟨k, by omega, iU_same⟩
    refine aw_aload_n dX6_tells_211 rfl rfl ?_
    refine aw_iload_n dX6_tells_212 rfl ?_
    refine aw_iload_n dX6_tells_213 rfl ?_
    refine aw_V2 dX6_tells_214 cw_X6_412 ⟨_, _, rfl⟩ hM.1 (by omega) ⟨Nat.le_refl _, Nat.le_refl _⟩ (by decide) (c_X6_firstOther (z := z) (by omega) hM (hRk.sam sM) hp hs (by rw [sM _ _ (by omega), iU_at (by omega)]; exact hsz) hzn (fun J1 K1 t1 => ?_))
    generalize hfo : foS (fun i => iU M 48 8 (nI k) 63 (40 * s + i)) (rbM (iU M 48 8 (nI k)) W p) z 0 = fo
    have efo : fo = foS (fun i => I 63 (40 * s + i)) (rbM (iU I 48 8 (nI k)) W p) z 0 := by
      rw [← hfo, foS_sam sM, show (fun i => iU I 48 8 (nI k) 63 (40 * s + i)) = (fun i => I 63 (40 * s + i)) from funext fun i => iU_at (by omega)]
    refine aw_iconst (v := -1) dX6_tells_217 (by decide) ?_
    refine aw_icmp_ne (tgt := 248) dX6_tells_218 (by decide) (fun c218 => ?_) (fun c218 => ?_)
    · refine aw_iinc (v := (nI k - 1)) (ls' := [_, _, _, _, _, _, _, _, _, _, _]) dX6_tells_248 rfl (dc1 _) (by decide) rfl rfl ?_
      refine aw_goto (tgt := 197) dX6_tells_251 (by decide) ?_
      refine ih _ _ _ _ _ _ (by omega) (sM.tr t1) (fun J K t => ?_)
      have hq := hQ J K t
      simp only [tlF] at hq
      rw [efo] at c218
      rw [if_neg c218] at hq
      exact hq
    · refine aw_iload dX6_tells_221 rfl ?_
      refine aw_iload dX6_tells_223 rfl ?_
      refine aw_bipush (v := 10) dX6_tells_225 (by decide) ?_
      refine aw_icmp_ge (tgt := 237) dX6_tells_227 (by decide) (fun c227 => ?_) (fun c227 => ?_)
      · refine aw_iconst (v := 0) dX6_tells_237 (by decide) ?_
        refine aw_ior dX6_tells_238 ?_
        refine aw_istore (ls' := [_, _, _, _, _, _, _, _, _, _, _]) dX6_tells_239 (by decide) rfl rfl ?_
        refine aw_iinc (v := (c + 1)) (ls' := [_, _, _, _, _, _, _, _, _, _, _]) dX6_tells_241 rfl rfl (by decide) rfl rfl ?_
        refine aw_iload dX6_tells_244 rfl ?_
        refine aw_istore (ls' := [_, _, _, _, _, _, _, _, _, _, _]) dX6_tells_246 (by decide) rfl rfl ?_
        refine aw_iinc (v := (nI k - 1)) (ls' := [_, _, _, _, _, _, _, _, _, _, _]) dX6_tells_248 rfl (dc1 _) (by decide) rfl rfl ?_
        refine aw_goto (tgt := 197) dX6_tells_251 (by decide) ?_
        have h10 : (10 : Int32) ≤ nI k ↔ 10 ≤ k := nI_leI (a := 10) (by decide) (by omega)
        refine ih _ _ _ _ _ _ (by omega) (sM.tr t1) (fun J K t => ?_)
        have hq := hQ J K t
        simp only [tlF] at hq
        rw [efo] at c218
        rw [if_pos c218] at hq
        first | (rw [if_neg (by have := h10.mp c227; omega)] at hq; exact hq) | (rw [if_pos (Nat.not_le.mp (fun w => c227 (h10.mpr w)))] at hq; exact hq)
      · refine aw_iconst (v := 1) dX6_tells_230 (by decide) ?_
        refine aw_iload dX6_tells_231 rfl ?_
        refine aw_ishl dX6_tells_233 ?_
        refine aw_goto (tgt := 238) dX6_tells_234 (by decide) ?_
        refine aw_ior dX6_tells_238 ?_
        refine aw_istore (ls' := [_, _, _, _, _, _, _, _, _, _, _]) dX6_tells_239 (by decide) rfl rfl ?_
        refine aw_iinc (v := (c + 1)) (ls' := [_, _, _, _, _, _, _, _, _, _, _]) dX6_tells_241 rfl rfl (by decide) rfl rfl ?_
        refine aw_iload dX6_tells_244 rfl ?_
        refine aw_istore (ls' := [_, _, _, _, _, _, _, _, _, _, _]) dX6_tells_246 (by decide) rfl rfl ?_
        refine aw_iinc (v := (nI k - 1)) (ls' := [_, _, _, _, _, _, _, _, _, _, _]) dX6_tells_248 rfl (dc1 _) (by decide) rfl rfl ?_
        refine aw_goto (tgt := 197) dX6_tells_251 (by decide) ?_
        have h10 : (10 : Int32) ≤ nI k ↔ 10 ≤ k := nI_leI (a := 10) (by decide) (by omega)
        refine ih _ _ _ _ _ _ (by omega) (sM.tr t1) (fun J K t => ?_)
        have hq := hQ J K t
        simp only [tlF] at hq
        rw [efo] at c218
        rw [if_pos c218] at hq
        first | (rw [if_neg (by have := h10.mp c227; omega)] at hq; exact hq) | (rw [if_pos (Nat.not_le.mp (fun w => c227 (h10.mpr w)))] at hq; exact hq)
theorem c_X6_tells3 {E : Ev} {d : Nat} {I : Mi} {L : Ml} {Z : Mz} {Q : Po} {x : Int32} {y : Int32} {W : Nat → (Nat → Int32) → Int32} {ru n m : Nat}  (hd : 46 ≤ d) (hM : MZ Z) (hR : RDM I W ru n m) (hz : ∀ s, s < 4 → ¬ I 60 s = 0 → ∃ z, z ≤ 40 ∧ I 62 s = nI z)  (hB : ¬ ((¬ x < 0 ∧ ¬ 3 < x) ∧ (∃ j, j < m ∧ y = nI j)) → Q (some (.int (-2))) I L Z) (hMs : ∀ s p, s < 4 → p < m → x = nI s → y = nI p → I 60 s = 0 → Q (some (.int (-11))) I L Z) (hB2 : ∀ s p z, s < 4 → p < m → x = nI s → y = nI p → ¬ I 60 s = 0 → I 62 s = nI z → z ≤ 40 ∧ n < z → Q (some (.int (-2))) I L Z) (hS : ∀ s p z, s < 4 → p < m → x = nI s → y = nI p → ¬ I 60 s = 0 → I 62 s = nI z → z ≤ n → ∀ (rv : Int32) (J : Mi) (K : Ml), SaM I J → rv = (tlF (fun v => foS (fun i => I 63 (40 * s + i)) (rbM (iU I 48 8 (nI v)) W p) z 0) 100 0 0 (-1)).2.1 → Q (some (.int rv)) J K Z) : AC E yX6_tells cX6_tells 11 (some .int) d 0 0 [.ref 48, .int x, .int y, .int 3] I L Z Q := by
  refine ac_go (ls := [some (.ref 48), some (.int x), some (.int y), some (.int 3), none, none, none, none, none, none, none]) (by decide +kernel) (Nat.le_of_ble_eq_true rfl) rfl ?_
  refine aw_iload_n dX6_tells_0 rfl ?_
  refine aw_S1 dX6_tells_1 cw_X6_415 (by omega) ⟨Nat.le_refl _, Nat.le_refl _⟩ (by decide) (c_X6_isSheet (by omega) (fun c1 => ?_) (fun c1 => ?_))
  · refine aw_if_eq (tgt := 27) dX6_tells_4 (by decide) (fun zz => absurd zz (by decide)) (fun _ => ?_)
    refine aw_aload_n dX6_tells_7 rfl rfl ?_
    refine aw_iload_n dX6_tells_8 rfl ?_
    refine aw_V1 dX6_tells_9 cw_X6_86 ⟨_, _, rfl⟩ hM.1 (by omega) ⟨Nat.le_refl _, Nat.le_refl _⟩ (by decide) (c_X6_isOne (by omega) hM hR.2.2.1.1 hR.2.2.1.2 (fun c9 => ?_) (fun c9 => ?_))
    · refine aw_if_eq (tgt := 27) dX6_tells_12 (by decide) (fun zz => absurd zz (by decide)) (fun _ => ?_)
      refine aw_iload_n dX6_tells_15 rfl ?_
      refine aw_i2l dX6_tells_16 ?_
      refine aw_lconst (v := 0) dX6_tells_17 (by decide) ?_
      refine aw_ldc2 dX6_tells_18 kw_X6_418 ?_
      refine aw_S3 dX6_tells_21 cw_X6_73 (by omega) ⟨Nat.le_refl _, Nat.le_refl _⟩ (by decide) (c_X6_in (x := 3) (a := 0) (b := 6) rfl (by decide) (by decide) (fun c21 => ?_) (fun zz => absurd (by decide) zz))
      refine aw_if_ne (tgt := 30) dX6_tells_24 (by decide) (fun _ => ?_) (fun zz => absurd zz (by decide))
      obtain ⟨s, hs, rfl⟩ := sh4 c1
      obtain ⟨p, hp, rfl⟩ := c9
      have hn6 := hR.2.1.2
      have hm5 := hR.2.2.1.2
      refine aw_aload_n dX6_tells_30 rfl rfl ?_
      refine aw_gr dX6_tells_31 fw_X6_50 hM.1 hM.2.2.2.2.2.2.2.2.2.2.2.2.2.2.2.2.2.2.2.2.2.2.2.1 ?_
      refine aw_iload_n dX6_tells_34 rfl ?_
      refine aw_za s dX6_tells_35 hM.2.2.2.2.2.2.2.2.2.2.2.2.2.2.2.2.2.2.2.2.2.2.2.2.1 rfl hs (by decide) ?_
      refine aw_if_ne (tgt := 42) dX6_tells_36 (by decide) (fun c36 => ?_) (fun c36 => ?_)
      · obtain ⟨z, hz4, hsz⟩ := hz s hs c36
        have hle : I 62 s ≤ I 48 10 ↔ z ≤ n := by rw [hsz, hR.2.1.1]; exact nI_leI (by omega) (by omega)
        refine aw_aload_n dX6_tells_42 rfl rfl ?_
        refine aw_gr dX6_tells_43 fw_X6_57 hM.1 hM.2.2.2.2.2.2.2.2.2.2.2.2.2.2.2.2.2.2.2.2.2.2.2.2.2.2.2.1 ?_
        refine aw_iload_n dX6_tells_46 rfl ?_
        refine aw_ia s dX6_tells_47 hM.2.2.2.2.2.2.2.2.2.2.2.2.2.2.2.2.2.2.2.2.2.2.2.2.2.2.2.2.1 rfl hs (by decide) ?_
        refine aw_aload_n dX6_tells_48 rfl rfl ?_
        refine aw_gi dX6_tells_49 fw_X6_77 hM.1 ?_
        refine aw_icmp_le (tgt := 58) dX6_tells_52 (by decide) (fun c52 => ?_) (fun c52 => ?_)
        · have hzn := hle.mp c52
          refine aw_iload_n dX6_tells_58 rfl ?_
          refine aw_if_eq (tgt := 68) dX6_tells_59 (by decide) (fun zz => absurd zz (by decide)) (fun _ => ?_)
          refine aw_iload_n dX6_tells_62 rfl ?_
          refine aw_bipush (v := 6) dX6_tells_63 (by decide) ?_
          refine aw_icmp_ne (tgt := 87) dX6_tells_65 (by decide) (fun _ => ?_) (fun zz => absurd zz (by decide))
          refine aw_iload_n dX6_tells_87 rfl ?_
          refine aw_iconst (v := 1) dX6_tells_88 (by decide) ?_
          refine aw_icmp_ne (tgt := 97) dX6_tells_89 (by decide) (fun _ => ?_) (fun zz => absurd zz (by decide))
          refine aw_iload_n dX6_tells_97 rfl ?_
          refine aw_iconst (v := 2) dX6_tells_98 (by decide) ?_
          refine aw_icmp_ne (tgt := 106) dX6_tells_99 (by decide) (fun _ => ?_) (fun zz => absurd zz (by decide))
          refine aw_iload_n dX6_tells_106 rfl ?_
          refine aw_iconst (v := 5) dX6_tells_107 (by decide) ?_
          refine aw_icmp_ne (tgt := 116) dX6_tells_108 (by decide) (fun _ => ?_) (fun zz => absurd zz (by decide))
          refine aw_iconst (v := 1) dX6_tells_116 (by decide) ?_
          refine aw_istore (ls' := [_, _, _, _, _, _, _, _, _, _, _]) dX6_tells_117 (by decide) rfl rfl ?_
          refine aw_iload dX6_tells_119 rfl ?_
          refine aw_bipush (v := 7) dX6_tells_121 (by decide) ?_
          refine aw_icmp_ne (tgt := 133) dX6_tells_123 (by decide) (fun _ => ?_) (fun zz => absurd zz (by decide))
          refine aw_aload_n dX6_tells_133 rfl rfl ?_
          refine aw_iload_n dX6_tells_134 rfl ?_
          refine aw_iload dX6_tells_135 rfl ?_
          refine aw_V2 dX6_tells_137 cw_X6_102 ⟨_, _, rfl⟩ hM.1 (by omega) ⟨Nat.le_refl _, Nat.le_refl _⟩ (by decide) (c_X6_told1 (by omega) hM ?_)
          refine aw_istore (ls' := [_, _, _, _, _, _, _, _, _, _, _]) dX6_tells_140 (by decide) rfl rfl ?_
          refine aw_iload dX6_tells_142 rfl ?_
          refine aw_bipush (v := 7) dX6_tells_144 (by decide) ?_
          refine aw_icmp_ne (tgt := 158) dX6_tells_146 (by decide) (fun _ => ?_) (fun zz => absurd zz (by decide))
          refine aw_iload dX6_tells_158 rfl ?_
          refine aw_bipush (v := 6) dX6_tells_160 (by decide) ?_
          refine aw_icmp_ne (tgt := 169) dX6_tells_162 (by decide) (fun _ => ?_) (fun zz => absurd zz (by decide))
          refine aw_iload dX6_tells_169 rfl ?_
          refine aw_iconst (v := 4) dX6_tells_171 (by decide) ?_
          refine aw_icmp_ne (tgt := 180) dX6_tells_172 (by decide) (fun _ => ?_) (fun zz => absurd zz (by decide))
          refine aw_bipush (v := 99) dX6_tells_180 (by decide) ?_
          refine aw_istore (ls' := [_, _, _, _, _, _, _, _, _, _, _]) dX6_tells_182 (by decide) rfl rfl ?_
          refine aw_iconst (v := 0) dX6_tells_184 (by decide) ?_
          refine aw_istore (ls' := [_, _, _, _, _, _, _, _, _, _, _]) dX6_tells_185 (by decide) rfl rfl ?_
          refine aw_iconst (v := 0) dX6_tells_187 (by decide) ?_
          refine aw_istore (ls' := [_, _, _, _, _, _, _, _, _, _, _]) dX6_tells_188 (by decide) rfl rfl ?_
          refine aw_iconst (v := -1) dX6_tells_190 (by decide) ?_
          refine aw_istore (ls' := [_, _, _, _, _, _, _, _, _, _, _]) dX6_tells_191 (by decide) rfl rfl ?_
          refine aw_iload dX6_tells_193 rfl ?_
          refine aw_istore (ls' := [_, _, _, _, _, _, _, _, _, _, _]) dX6_tells_195 (by decide) rfl rfl ?_
          have hz6 := hz4
          have e0 : (99 : Int32) = nI 100 - 1 := by decide
          have eI : iU I 48 8 (I 48 8) = I := iU_slf
          refine (show ∀ X : Int32, X = nI 100 - 1 → AW E yX6_tells cX6_tells 11 (some .int) (rmOf d 0 0) Q 0 0 197 [some (.ref 48), some (.int (nI s)), some (.int (nI p)), some (.int 3), some (.int 1), some (.int (I 48 8)), some (.int X), some (.int 0), some (.int 0), some (.int (-1)), some (.int X)] [] I L Z from fun X eX => ?_) _ (by first | decide | rfl)
          subst eX
          refine l_X6_tells3 hd hM hR hp hs hsz hzn 100 0 0 (-1) (I 48 8) _ _ (Nat.le_refl _) (by rw [eI]; exact SaM.rf) (fun J K2 t => ?_)
          rw [eI] at t
          exact hS s p z hs hp rfl rfl c36 hsz hzn _ _ _ t rfl
        · refine aw_bipush (v := -2) dX6_tells_55 (by decide) ?_
          refine aw_ireturn (ty := .int) dX6_tells_57 rfl rfl ?_
          exact hB2 s p z hs hp rfl rfl c36 hsz ⟨hz4, (Nat.not_le.mp (fun w => c52 (hle.mpr w)))⟩
      · refine aw_bipush (v := -11) dX6_tells_39 (by decide) ?_
        refine aw_ireturn (ty := .int) dX6_tells_41 rfl rfl ?_
        exact hMs s p hs hp rfl rfl c36
    · refine aw_if_eq (tgt := 27) dX6_tells_12 (by decide) (fun _ => ?_) (fun zz => absurd zz (by decide))
      refine aw_bipush (v := -2) dX6_tells_27 (by decide) ?_
      refine aw_ireturn (ty := .int) dX6_tells_29 rfl rfl ?_
      exact hB (fun zz => c9 zz.2)
  · refine aw_if_eq (tgt := 27) dX6_tells_4 (by decide) (fun _ => ?_) (fun zz => absurd zz (by decide))
    refine aw_bipush (v := -2) dX6_tells_27 (by decide) ?_
    refine aw_ireturn (ty := .int) dX6_tells_29 rfl rfl ?_
    exact hB (fun zz => c1 zz.1)
theorem l_X6_tells4 {E : Ev} {d : Nat} {I : Mi} {Z : Mz} {Q : Po} {W : Nat → (Nat → Int32) → Int32} {ru n m : Nat} {p s z : Nat} {bf la : Int32} (hd : 46 ≤ d) (hM : MZ Z) (hR : RDM I W ru n m) (hp : p < m) (hs : s < 4) (hsz : I 62 s = nI z) (hzn : z ≤ n)  : ∀ (k : Nat) (a c l : Int32) (y : Int32) (M : Mi) (L : Ml), k ≤ 100 → SaM (iU I 48 8 y) M → (∀ (J : Mi) (K2 : Ml) , SaM (iU I 48 8 bf) J → Q (some (.int (tlF (fun v => foS (fun i => I 63 (40 * s + i)) (rbM (iU I 48 8 (nI v)) W p) z 0) k a c l).2.2)) J K2 Z) → AW E yX6_tells cX6_tells 11 (some .int) (rmOf d 0 0) Q 0 0 197 [some (.ref 48), some (.int (nI s)), some (.int (nI p)), some (.int 4), some (.int 1), some (.int bf), some (.int la), some (.int a), some (.int c), some (.int l), some (.int (nI k - 1))] [] M L Z := by
  intro k
  induction k with
  | zero =>
    intro a c l y M L hk sM hQ
    have hm5 := hR.2.2.1.2
    refine aw_iload dX6_tells_197 rfl ?_
    refine aw_if_lt (tgt := 254) dX6_tells_199 (by decide) (fun c199 => ?_) (fun zz => absurd (by decide) zz)
    refine aw_aload_n dX6_tells_254 rfl rfl ?_
    refine aw_iload dX6_tells_255 rfl ?_
    refine aw_iload_n dX6_tells_257 rfl ?_
    refine aw_iload dX6_tells_258 rfl ?_
    refine aw_V3 dX6_tells_260 cw_X6_106 ⟨_, _, rfl⟩ hM.1 (by omega) ⟨Nat.le_refl _, Nat.le_refl _⟩ (by decide) (c_X6_lays1 hM ?_)
    refine aw_iload_n dX6_tells_263 rfl ?_
    refine aw_iconst (v := 3) dX6_tells_264 (by decide) ?_
    refine aw_icmp_ne (tgt := 273) dX6_tells_265 (by decide) (fun _ => ?_) (fun zz => absurd zz (by decide))
    refine aw_iload_n dX6_tells_273 rfl ?_
    refine aw_iconst (v := 4) dX6_tells_274 (by decide) ?_
    refine aw_icmp_ne (tgt := 283) dX6_tells_275 (by decide) (fun zz => absurd zz (by decide)) (fun _ => ?_)
    refine aw_iload dX6_tells_278 rfl ?_
    refine aw_goto (tgt := 285) dX6_tells_280 (by decide) ?_
    refine aw_ireturn (ty := .int) dX6_tells_285 rfl rfl ?_
    refine hQ _ _ ?_
    have := sM.iu (a := 48) (k := 8) (x := bf)
    rw [iU_two] at this
    exact this
  | succ k ih =>
    intro a c l y M L hk sM hQ
    have hm5 := hR.2.2.1.2
    rw [nI_pred]
    refine aw_iload dX6_tells_197 rfl ?_
    refine aw_if_lt (tgt := 254) dX6_tells_199 (by decide) (fun zz => absurd zz (nI_pos (by omega))) (fun c199 => ?_)
    refine aw_aload_n dX6_tells_202 rfl rfl ?_
    refine aw_iload dX6_tells_203 rfl ?_
    refine aw_iload_n dX6_tells_205 rfl ?_
    refine aw_iload dX6_tells_206 rfl ?_
    refine aw_V3 dX6_tells_208 cw_X6_106 ⟨_, _, rfl⟩ hM.1 (by omega) ⟨Nat.le_refl _, Nat.le_refl _⟩ (by decide) (c_X6_lays1 hM ?_)
    replace sM := sM.iu (a := 48) (k := 8) (x := nI k)
    rw [iU_two] at sM
    have hRk : RDM (iU I 48 8 (nI k)) W ru n m := hR.eqv (iU_at (by omega)) (by funext j; exact iU_at (by omega)) (by funext j; exact iU_at (by omega)) (iU_at (by omega)) (iU_at (by omega)) (by funext j; exact iU_at (by omega)) (by funext j; exact iU_at (by omega)) ⟨k, by omega, iU_same⟩
    refine aw_aload_n dX6_tells_211 rfl rfl ?_
    refine aw_iload_n dX6_tells_212 rfl ?_
    refine aw_iload_n dX6_tells_213 rfl ?_
    refine aw_V2 dX6_tells_214 cw_X6_412 ⟨_, _, rfl⟩ hM.1 (by omega) ⟨Nat.le_refl _, Nat.le_refl _⟩ (by decide) (c_X6_firstOther (z := z) (by omega) hM (hRk.sam sM) hp hs (by rw [sM _ _ (by omega), iU_at (by omega)]; exact hsz) hzn (fun J1 K1 t1 => ?_))
    generalize hfo : foS (fun i => iU M 48 8 (nI k) 63 (40 * s + i)) (rbM (iU M 48 8 (nI k)) W p) z 0 = fo
    have efo : fo = foS (fun i => I 63 (40 * s + i)) (rbM (iU I 48 8 (nI k)) W p) z 0 := by
      rw [← hfo, foS_sam sM, show (fun i => iU I 48 8 (nI k) 63 (40 * s + i)) = (fun i => I 63 (40 * s + i)) from funext fun i => iU_at (by omega)]
    refine aw_iconst (v := -1) dX6_tells_217 (by decide) ?_
    refine aw_icmp_ne (tgt := 248) dX6_tells_218 (by decide) (fun c218 => ?_) (fun c218 => ?_)
    · refine aw_iinc (v := (nI k - 1)) (ls' := [_, _, _, _, _, _, _, _, _, _, _]) dX6_tells_248 rfl (dc1 _) (by decide) rfl rfl ?_
      refine aw_goto (tgt := 197) dX6_tells_251 (by decide) ?_
      refine ih _ _ _ _ _ _ (by omega) (sM.tr t1) (fun J K t => ?_)
      have hq := hQ J K t
      simp only [tlF] at hq
      rw [efo] at c218
      rw [if_neg c218] at hq
      exact hq
    · refine aw_iload dX6_tells_221 rfl ?_
      refine aw_iload dX6_tells_223 rfl ?_
      refine aw_bipush (v := 10) dX6_tells_225 (by decide) ?_
      refine aw_icmp_ge (tgt := 237) dX6_tells_227 (by decide) (fun c227 => ?_) (fun c227 => ?_)
      · refine aw_iconst (v := 0) dX6_tells_237 (by decide) ?_
        refine aw_ior dX6_tells_238 ?_
        refine aw_istore (ls' := [_, _, _, _, _, _, _, _, _, _, _]) dX6_tells_239 (by decide) rfl rfl ?_
        refine aw_iinc (v := (c + 1)) (ls' := [_, _, _, _, _, _, _, _, _, _, _]) dX6_tells_241 rfl rfl (by decide) rfl rfl ?_
        refine aw_iload dX6_tells_244 rfl ?_
        refine aw_istore (ls' := [_, _, _, _, _, _, _, _, _, _, _]) dX6_tells_246 (by decide) rfl rfl ?_
        refine aw_iinc (v := (nI k - 1)) (ls' := [_, _, _, _, _, _, _, _, _, _, _]) dX6_tells_248 rfl (dc1 _) (by decide) rfl rfl ?_
        refine aw_goto (tgt := 197) dX6_tells_251 (by decide) ?_
        have h10 : (10 : Int32) ≤ nI k ↔ 10 ≤ k := nI_leI (a := 10) (by decide) (by omega)
        refine ih _ _ _ _ _ _ (by omega) (sM.tr t1) (fun J K t => ?_)
        have hq := hQ J K t
        simp only [tlF] at hq
        rw [efo] at c218
        rw [if_pos c218] at hq
        first | (rw [if_neg (by have := h10.mp c227; omega)] at hq; exact hq) | (rw [if_pos (Nat.not_le.mp (fun w => c227 (h10.mpr w)))] at hq; exact hq)
      · refine aw_iconst (v := 1) dX6_tells_230 (by decide) ?_
        refine aw_iload dX6_tells_231 rfl ?_
        refine aw_ishl dX6_tells_233 ?_
        refine aw_goto (tgt := 238) dX6_tells_234 (by decide) ?_
        refine aw_ior dX6_tells_238 ?_
        refine aw_istore (ls' := [_, _, _, _, _, _, _, _, _, _, _]) dX6_tells_239 (by decide) rfl rfl ?_
        refine aw_iinc (v := (c + 1)) (ls' := [_, _, _, _, _, _, _, _, _, _, _]) dX6_tells_241 rfl rfl (by decide) rfl rfl ?_
        refine aw_iload dX6_tells_244 rfl ?_
        refine aw_istore (ls' := [_, _, _, _, _, _, _, _, _, _, _]) dX6_tells_246 (by decide) rfl rfl ?_
        refine aw_iinc (v := (nI k - 1)) (ls' := [_, _, _, _, _, _, _, _, _, _, _]) dX6_tells_248 rfl (dc1 _) (by decide) rfl rfl ?_
        refine aw_goto (tgt := 197) dX6_tells_251 (by decide) ?_
        have h10 : (10 : Int32) ≤ nI k ↔ 10 ≤ k := nI_leI (a := 10) (by decide) (by omega)
        refine ih _ _ _ _ _ _ (by omega) (sM.tr t1) (fun J K t => ?_)
        have hq := hQ J K t
        simp only [tlF] at hq
        rw [efo] at c218
        rw [if_pos c218] at hq
        first | (rw [if_neg (by have := h10.mp c227; omega)] at hq; exact hq) | (rw [if_pos (Nat.not_le.mp (fun w => c227 (h10.mpr w)))] at hq; exact hq)
theorem c_X6_tells4 {E : Ev} {d : Nat} {I : Mi} {L : Ml} {Z : Mz} {Q : Po} {x : Int32} {y : Int32} {W : Nat → (Nat → Int32) → Int32} {ru n m : Nat}  (hd : 46 ≤ d) (hM : MZ Z) (hR : RDM I W ru n m) (hz : ∀ s, s < 4 → ¬ I 60 s = 0 → ∃ z, z ≤ 40 ∧ I 62 s = nI z)  (hB : ¬ ((¬ x < 0 ∧ ¬ 3 < x) ∧ (∃ j, j < m ∧ y = nI j)) → Q (some (.int (-2))) I L Z) (hMs : ∀ s p, s < 4 → p < m → x = nI s → y = nI p → I 60 s = 0 → Q (some (.int (-11))) I L Z) (hB2 : ∀ s p z, s < 4 → p < m → x = nI s → y = nI p → ¬ I 60 s = 0 → I 62 s = nI z → z ≤ 40 ∧ n < z → Q (some (.int (-2))) I L Z) (hS : ∀ s p z, s < 4 → p < m → x = nI s → y = nI p → ¬ I 60 s = 0 → I 62 s = nI z → z ≤ n → ∀ (rv : Int32) (J : Mi) (K : Ml), SaM I J → rv = (tlF (fun v => foS (fun i => I 63 (40 * s + i)) (rbM (iU I 48 8 (nI v)) W p) z 0) 100 0 0 (-1)).2.2 → Q (some (.int rv)) J K Z) : AC E yX6_tells cX6_tells 11 (some .int) d 0 0 [.ref 48, .int x, .int y, .int 4] I L Z Q := by
  refine ac_go (ls := [some (.ref 48), some (.int x), some (.int y), some (.int 4), none, none, none, none, none, none, none]) (by decide +kernel) (Nat.le_of_ble_eq_true rfl) rfl ?_
  refine aw_iload_n dX6_tells_0 rfl ?_
  refine aw_S1 dX6_tells_1 cw_X6_415 (by omega) ⟨Nat.le_refl _, Nat.le_refl _⟩ (by decide) (c_X6_isSheet (by omega) (fun c1 => ?_) (fun c1 => ?_))
  · refine aw_if_eq (tgt := 27) dX6_tells_4 (by decide) (fun zz => absurd zz (by decide)) (fun _ => ?_)
    refine aw_aload_n dX6_tells_7 rfl rfl ?_
    refine aw_iload_n dX6_tells_8 rfl ?_
    refine aw_V1 dX6_tells_9 cw_X6_86 ⟨_, _, rfl⟩ hM.1 (by omega) ⟨Nat.le_refl _, Nat.le_refl _⟩ (by decide) (c_X6_isOne (by omega) hM hR.2.2.1.1 hR.2.2.1.2 (fun c9 => ?_) (fun c9 => ?_))
    · refine aw_if_eq (tgt := 27) dX6_tells_12 (by decide) (fun zz => absurd zz (by decide)) (fun _ => ?_)
      refine aw_iload_n dX6_tells_15 rfl ?_
      refine aw_i2l dX6_tells_16 ?_
      refine aw_lconst (v := 0) dX6_tells_17 (by decide) ?_
      refine aw_ldc2 dX6_tells_18 kw_X6_418 ?_
      refine aw_S3 dX6_tells_21 cw_X6_73 (by omega) ⟨Nat.le_refl _, Nat.le_refl _⟩ (by decide) (c_X6_in (x := 4) (a := 0) (b := 6) rfl (by decide) (by decide) (fun c21 => ?_) (fun zz => absurd (by decide) zz))
      refine aw_if_ne (tgt := 30) dX6_tells_24 (by decide) (fun _ => ?_) (fun zz => absurd zz (by decide))
      obtain ⟨s, hs, rfl⟩ := sh4 c1
      obtain ⟨p, hp, rfl⟩ := c9
      have hn6 := hR.2.1.2
      have hm5 := hR.2.2.1.2
      refine aw_aload_n dX6_tells_30 rfl rfl ?_
      refine aw_gr dX6_tells_31 fw_X6_50 hM.1 hM.2.2.2.2.2.2.2.2.2.2.2.2.2.2.2.2.2.2.2.2.2.2.2.1 ?_
      refine aw_iload_n dX6_tells_34 rfl ?_
      refine aw_za s dX6_tells_35 hM.2.2.2.2.2.2.2.2.2.2.2.2.2.2.2.2.2.2.2.2.2.2.2.2.1 rfl hs (by decide) ?_
      refine aw_if_ne (tgt := 42) dX6_tells_36 (by decide) (fun c36 => ?_) (fun c36 => ?_)
      · obtain ⟨z, hz4, hsz⟩ := hz s hs c36
        have hle : I 62 s ≤ I 48 10 ↔ z ≤ n := by rw [hsz, hR.2.1.1]; exact nI_leI (by omega) (by omega)
        refine aw_aload_n dX6_tells_42 rfl rfl ?_
        refine aw_gr dX6_tells_43 fw_X6_57 hM.1 hM.2.2.2.2.2.2.2.2.2.2.2.2.2.2.2.2.2.2.2.2.2.2.2.2.2.2.2.1 ?_
        refine aw_iload_n dX6_tells_46 rfl ?_
        refine aw_ia s dX6_tells_47 hM.2.2.2.2.2.2.2.2.2.2.2.2.2.2.2.2.2.2.2.2.2.2.2.2.2.2.2.2.1 rfl hs (by decide) ?_
        refine aw_aload_n dX6_tells_48 rfl rfl ?_
        refine aw_gi dX6_tells_49 fw_X6_77 hM.1 ?_
        refine aw_icmp_le (tgt := 58) dX6_tells_52 (by decide) (fun c52 => ?_) (fun c52 => ?_)
        · have hzn := hle.mp c52
          refine aw_iload_n dX6_tells_58 rfl ?_
          refine aw_if_eq (tgt := 68) dX6_tells_59 (by decide) (fun zz => absurd zz (by decide)) (fun _ => ?_)
          refine aw_iload_n dX6_tells_62 rfl ?_
          refine aw_bipush (v := 6) dX6_tells_63 (by decide) ?_
          refine aw_icmp_ne (tgt := 87) dX6_tells_65 (by decide) (fun _ => ?_) (fun zz => absurd zz (by decide))
          refine aw_iload_n dX6_tells_87 rfl ?_
          refine aw_iconst (v := 1) dX6_tells_88 (by decide) ?_
          refine aw_icmp_ne (tgt := 97) dX6_tells_89 (by decide) (fun _ => ?_) (fun zz => absurd zz (by decide))
          refine aw_iload_n dX6_tells_97 rfl ?_
          refine aw_iconst (v := 2) dX6_tells_98 (by decide) ?_
          refine aw_icmp_ne (tgt := 106) dX6_tells_99 (by decide) (fun _ => ?_) (fun zz => absurd zz (by decide))
          refine aw_iload_n dX6_tells_106 rfl ?_
          refine aw_iconst (v := 5) dX6_tells_107 (by decide) ?_
          refine aw_icmp_ne (tgt := 116) dX6_tells_108 (by decide) (fun _ => ?_) (fun zz => absurd zz (by decide))
          refine aw_iconst (v := 1) dX6_tells_116 (by decide) ?_
          refine aw_istore (ls' := [_, _, _, _, _, _, _, _, _, _, _]) dX6_tells_117 (by decide) rfl rfl ?_
          refine aw_iload dX6_tells_119 rfl ?_
          refine aw_bipush (v := 7) dX6_tells_121 (by decide) ?_
          refine aw_icmp_ne (tgt := 133) dX6_tells_123 (by decide) (fun _ => ?_) (fun zz => absurd zz (by decide))
          refine aw_aload_n dX6_tells_133 rfl rfl ?_
          refine aw_iload_n dX6_tells_134 rfl ?_
          refine aw_iload dX6_tells_135 rfl ?_
          refine aw_V2 dX6_tells_137 cw_X6_102 ⟨_, _, rfl⟩ hM.1 (by omega) ⟨Nat.le_refl _, Nat.le_refl _⟩ (by decide) (c_X6_told1 (by omega) hM ?_)
          refine aw_istore (ls' := [_, _, _, _, _, _, _, _, _, _, _]) dX6_tells_140 (by decide) rfl rfl ?_
          refine aw_iload dX6_tells_142 rfl ?_
          refine aw_bipush (v := 7) dX6_tells_144 (by decide) ?_
          refine aw_icmp_ne (tgt := 158) dX6_tells_146 (by decide) (fun _ => ?_) (fun zz => absurd zz (by decide))
          refine aw_iload dX6_tells_158 rfl ?_
          refine aw_bipush (v := 6) dX6_tells_160 (by decide) ?_
          refine aw_icmp_ne (tgt := 169) dX6_tells_162 (by decide) (fun _ => ?_) (fun zz => absurd zz (by decide))
          refine aw_iload dX6_tells_169 rfl ?_
          refine aw_iconst (v := 4) dX6_tells_171 (by decide) ?_
          refine aw_icmp_ne (tgt := 180) dX6_tells_172 (by decide) (fun _ => ?_) (fun zz => absurd zz (by decide))
          refine aw_bipush (v := 99) dX6_tells_180 (by decide) ?_
          refine aw_istore (ls' := [_, _, _, _, _, _, _, _, _, _, _]) dX6_tells_182 (by decide) rfl rfl ?_
          refine aw_iconst (v := 0) dX6_tells_184 (by decide) ?_
          refine aw_istore (ls' := [_, _, _, _, _, _, _, _, _, _, _]) dX6_tells_185 (by decide) rfl rfl ?_
          refine aw_iconst (v := 0) dX6_tells_187 (by decide) ?_
          refine aw_istore (ls' := [_, _, _, _, _, _, _, _, _, _, _]) dX6_tells_188 (by decide) rfl rfl ?_
          refine aw_iconst (v := -1) dX6_tells_190 (by decide) ?_
          refine aw_istore (ls' := [_, _, _, _, _, _, _, _, _, _, _]) dX6_tells_191 (by decide) rfl rfl ?_
          refine aw_iload dX6_tells_193 rfl ?_
          refine aw_istore (ls' := [_, _, _, _, _, _, _, _, _, _, _]) dX6_tells_195 (by decide) rfl rfl ?_
          have hz6 := hz4
          have e0 : (99 : Int32) = nI 100 - 1 := by decide
          have eI : iU I 48 8 (I 48 8) = I := iU_slf
          refine (show ∀ X : Int32, X = nI 100 - 1 → AW E yX6_tells cX6_tells 11 (some .int) (rmOf d 0 0) Q 0 0 197 [some (.ref 48), some (.int (nI s)), some (.int (nI p)), some (.int 4), some (.int 1), some (.int (I 48 8)), some (.int X), some (.int 0), some (.int 0), some (.int (-1)), some (.int X)] [] I L Z from fun X eX => ?_) _ (by first | decide | rfl)
          subst eX
          refine l_X6_tells4 hd hM hR hp hs hsz hzn 100 0 0 (-1) (I 48 8) _ _ (Nat.le_refl _) (by rw [eI]; exact SaM.rf) (fun J K2 t => ?_)
          rw [eI] at t
          exact hS s p z hs hp rfl rfl c36 hsz hzn _ _ _ t rfl
        · refine aw_bipush (v := -2) dX6_tells_55 (by decide) ?_
          refine aw_ireturn (ty := .int) dX6_tells_57 rfl rfl ?_
          exact hB2 s p z hs hp rfl rfl c36 hsz ⟨hz4, (Nat.not_le.mp (fun w => c52 (hle.mpr w)))⟩
      · refine aw_bipush (v := -11) dX6_tells_39 (by decide) ?_
        refine aw_ireturn (ty := .int) dX6_tells_41 rfl rfl ?_
        exact hMs s p hs hp rfl rfl c36
    · refine aw_if_eq (tgt := 27) dX6_tells_12 (by decide) (fun _ => ?_) (fun zz => absurd zz (by decide))
      refine aw_bipush (v := -2) dX6_tells_27 (by decide) ?_
      refine aw_ireturn (ty := .int) dX6_tells_29 rfl rfl ?_
      exact hB (fun zz => c9 zz.2)
  · refine aw_if_eq (tgt := 27) dX6_tells_4 (by decide) (fun _ => ?_) (fun zz => absurd zz (by decide))
    refine aw_bipush (v := -2) dX6_tells_27 (by decide) ?_
    refine aw_ireturn (ty := .int) dX6_tells_29 rfl rfl ?_
    exact hB (fun zz => c1 zz.1)
theorem c_X6_tells0 {E : Ev} {d : Nat} {I : Mi} {L : Ml} {Z : Mz} {Q : Po} {x : Int32} {y : Int32} {W : Nat → (Nat → Int32) → Int32} {ru n m : Nat} (hd : 47 ≤ d) (hM : MZ Z) (hR : RDM I W ru n m) (hz : ∀ s, s < 4 → ¬ I 60 s = 0 → ∃ z, z ≤ 40 ∧ I 62 s = nI z) (hB : ¬ ((¬ x < 0 ∧ ¬ 3 < x) ∧ (∃ j, j < m ∧ y = nI j)) → Q (some (.int (-2))) I L Z) (hMs : ∀ s p, s < 4 → p < m → x = nI s → y = nI p → I 60 s = 0 → Q (some (.int (-11))) I L Z) (hB2 : ∀ s p z, s < 4 → p < m → x = nI s → y = nI p → ¬ I 60 s = 0 → I 62 s = nI z → z ≤ 40 ∧ n < z → Q (some (.int (-2))) I L Z) (hS : ∀ s p z, s < 4 → p < m → x = nI s → y = nI p → ¬ I 60 s = 0 → I 62 s = nI z → z ≤ n → ∀ (rv : Int32) (J : Mi) (K : Ml), SaM I J → rv = foS (fun i => I 63 (40 * s + i)) (rbM I W p) z 0 → Q (some (.int rv)) J K Z) : AC E yX6_tells cX6_tells 11 (some .int) d 0 0 [.ref 48, .int x, .int y, .int 0] I L Z Q := by
  refine ac_go (ls := [some (.ref 48), some (.int x), some (.int y), some (.int 0), none, none, none, none, none, none, none]) (by decide +kernel) (Nat.le_of_ble_eq_true rfl) rfl ?_
  refine aw_iload_n dX6_tells_0 rfl ?_
  refine aw_S1 dX6_tells_1 cw_X6_415 (by omega) ⟨Nat.le_refl _, Nat.le_refl _⟩ (by decide) (c_X6_isSheet (by omega) (fun c1 => ?_) (fun c1 => ?_))
  · refine aw_if_eq (tgt := 27) dX6_tells_4 (by decide) (fun zz => absurd zz (by decide)) (fun _ => ?_)
    refine aw_aload_n dX6_tells_7 rfl rfl ?_
    refine aw_iload_n dX6_tells_8 rfl ?_
    refine aw_V1 dX6_tells_9 cw_X6_86 ⟨_, _, rfl⟩ hM.1 (by omega) ⟨Nat.le_refl _, Nat.le_refl _⟩ (by decide) (c_X6_isOne (by omega) hM hR.2.2.1.1 hR.2.2.1.2 (fun c9 => ?_) (fun c9 => ?_))
    · refine aw_if_eq (tgt := 27) dX6_tells_12 (by decide) (fun zz => absurd zz (by decide)) (fun _ => ?_)
      refine aw_iload_n dX6_tells_15 rfl ?_
      refine aw_i2l dX6_tells_16 ?_
      refine aw_lconst (v := 0) dX6_tells_17 (by decide) ?_
      refine aw_ldc2 dX6_tells_18 kw_X6_418 ?_
      refine aw_S3 dX6_tells_21 cw_X6_73 (by omega) ⟨Nat.le_refl _, Nat.le_refl _⟩ (by decide) (c_X6_in (x := 0) (a := 0) (b := 6) rfl (by decide) (by decide) (fun c21 => ?_) (fun zz => absurd (by decide) zz))
      refine aw_if_ne (tgt := 30) dX6_tells_24 (by decide) (fun _ => ?_) (fun zz => absurd zz (by decide))
      obtain ⟨s, hs, rfl⟩ := sh4 c1
      obtain ⟨p, hp, rfl⟩ := c9
      have hn6 := hR.2.1.2
      have hm5 := hR.2.2.1.2
      refine aw_aload_n dX6_tells_30 rfl rfl ?_
      refine aw_gr dX6_tells_31 fw_X6_50 hM.1 hM.2.2.2.2.2.2.2.2.2.2.2.2.2.2.2.2.2.2.2.2.2.2.2.1 ?_
      refine aw_iload_n dX6_tells_34 rfl ?_
      refine aw_za s dX6_tells_35 hM.2.2.2.2.2.2.2.2.2.2.2.2.2.2.2.2.2.2.2.2.2.2.2.2.1 rfl hs (by decide) ?_
      refine aw_if_ne (tgt := 42) dX6_tells_36 (by decide) (fun c36 => ?_) (fun c36 => ?_)
      · obtain ⟨z, hz4, hsz⟩ := hz s hs c36
        have hle : I 62 s ≤ I 48 10 ↔ z ≤ n := by rw [hsz, hR.2.1.1]; exact nI_leI (by omega) (by omega)
        refine aw_aload_n dX6_tells_42 rfl rfl ?_
        refine aw_gr dX6_tells_43 fw_X6_57 hM.1 hM.2.2.2.2.2.2.2.2.2.2.2.2.2.2.2.2.2.2.2.2.2.2.2.2.2.2.2.1 ?_
        refine aw_iload_n dX6_tells_46 rfl ?_
        refine aw_ia s dX6_tells_47 hM.2.2.2.2.2.2.2.2.2.2.2.2.2.2.2.2.2.2.2.2.2.2.2.2.2.2.2.2.1 rfl hs (by decide) ?_
        refine aw_aload_n dX6_tells_48 rfl rfl ?_
        refine aw_gi dX6_tells_49 fw_X6_77 hM.1 ?_
        refine aw_icmp_le (tgt := 58) dX6_tells_52 (by decide) (fun c52 => ?_) (fun c52 => ?_)
        · have hzn := hle.mp c52
          refine aw_iload_n dX6_tells_58 rfl ?_
          refine aw_if_eq (tgt := 68) dX6_tells_59 (by decide) (fun _ => ?_) (fun zz => absurd zz (by decide))
          refine aw_iload_n dX6_tells_68 rfl ?_
          refine aw_if_ne (tgt := 81) dX6_tells_69 (by decide) (fun zz => absurd zz (by decide)) (fun _ => ?_)
          refine aw_aload_n dX6_tells_72 rfl rfl ?_
          refine aw_iload_n dX6_tells_73 rfl ?_
          refine aw_iload_n dX6_tells_74 rfl ?_
          refine aw_V2 dX6_tells_75 cw_X6_412 ⟨_, _, rfl⟩ hM.1 (by omega) ⟨Nat.le_refl _, Nat.le_refl _⟩ (by decide) (c_X6_firstOther (by omega) hM hR hp hs hsz hzn (fun J K t => ?_))
          refine aw_goto (tgt := 86) dX6_tells_78 (by decide) ?_
          refine aw_ireturn (ty := .int) dX6_tells_86 rfl rfl ?_
          exact hS s p z hs hp rfl rfl c36 hsz hzn _ _ _ t rfl
        · refine aw_bipush (v := -2) dX6_tells_55 (by decide) ?_
          refine aw_ireturn (ty := .int) dX6_tells_57 rfl rfl ?_
          exact hB2 s p z hs hp rfl rfl c36 hsz ⟨hz4, (Nat.not_le.mp (fun w => c52 (hle.mpr w)))⟩
      · refine aw_bipush (v := -11) dX6_tells_39 (by decide) ?_
        refine aw_ireturn (ty := .int) dX6_tells_41 rfl rfl ?_
        exact hMs s p hs hp rfl rfl c36
    · refine aw_if_eq (tgt := 27) dX6_tells_12 (by decide) (fun _ => ?_) (fun zz => absurd zz (by decide))
      refine aw_bipush (v := -2) dX6_tells_27 (by decide) ?_
      refine aw_ireturn (ty := .int) dX6_tells_29 rfl rfl ?_
      exact hB (fun zz => c9 zz.2)
  · refine aw_if_eq (tgt := 27) dX6_tells_4 (by decide) (fun _ => ?_) (fun zz => absurd zz (by decide))
    refine aw_bipush (v := -2) dX6_tells_27 (by decide) ?_
    refine aw_ireturn (ty := .int) dX6_tells_29 rfl rfl ?_
    exact hB (fun zz => c1 zz.1)
theorem c_X6_tells6 {E : Ev} {d : Nat} {I : Mi} {L : Ml} {Z : Mz} {Q : Po} {x : Int32} {y : Int32} {W : Nat → (Nat → Int32) → Int32} {ru n m : Nat} (hd : 47 ≤ d) (hM : MZ Z) (hR : RDM I W ru n m) (hz : ∀ s, s < 4 → ¬ I 60 s = 0 → ∃ z, z ≤ 40 ∧ I 62 s = nI z) (hB : ¬ ((¬ x < 0 ∧ ¬ 3 < x) ∧ (∃ j, j < m ∧ y = nI j)) → Q (some (.int (-2))) I L Z) (hMs : ∀ s p, s < 4 → p < m → x = nI s → y = nI p → I 60 s = 0 → Q (some (.int (-11))) I L Z) (hB2 : ∀ s p z, s < 4 → p < m → x = nI s → y = nI p → ¬ I 60 s = 0 → I 62 s = nI z → z ≤ 40 ∧ n < z → Q (some (.int (-2))) I L Z) (hS : ∀ s p z, s < 4 → p < m → x = nI s → y = nI p → ¬ I 60 s = 0 → I 62 s = nI z → z ≤ n → ∀ (rv : Int32) (J : Mi) (K : Ml), SaM I J → rv = btF (fun p => foS (fun i => I 63 (40 * s + i)) (rbM I W p) z 0) m 0 0 → Q (some (.int rv)) J K Z) : AC E yX6_tells cX6_tells 11 (some .int) d 0 0 [.ref 48, .int x, .int y, .int 6] I L Z Q := by
  refine ac_go (ls := [some (.ref 48), some (.int x), some (.int y), some (.int 6), none, none, none, none, none, none, none]) (by decide +kernel) (Nat.le_of_ble_eq_true rfl) rfl ?_
  refine aw_iload_n dX6_tells_0 rfl ?_
  refine aw_S1 dX6_tells_1 cw_X6_415 (by omega) ⟨Nat.le_refl _, Nat.le_refl _⟩ (by decide) (c_X6_isSheet (by omega) (fun c1 => ?_) (fun c1 => ?_))
  · refine aw_if_eq (tgt := 27) dX6_tells_4 (by decide) (fun zz => absurd zz (by decide)) (fun _ => ?_)
    refine aw_aload_n dX6_tells_7 rfl rfl ?_
    refine aw_iload_n dX6_tells_8 rfl ?_
    refine aw_V1 dX6_tells_9 cw_X6_86 ⟨_, _, rfl⟩ hM.1 (by omega) ⟨Nat.le_refl _, Nat.le_refl _⟩ (by decide) (c_X6_isOne (by omega) hM hR.2.2.1.1 hR.2.2.1.2 (fun c9 => ?_) (fun c9 => ?_))
    · refine aw_if_eq (tgt := 27) dX6_tells_12 (by decide) (fun zz => absurd zz (by decide)) (fun _ => ?_)
      refine aw_iload_n dX6_tells_15 rfl ?_
      refine aw_i2l dX6_tells_16 ?_
      refine aw_lconst (v := 0) dX6_tells_17 (by decide) ?_
      refine aw_ldc2 dX6_tells_18 kw_X6_418 ?_
      refine aw_S3 dX6_tells_21 cw_X6_73 (by omega) ⟨Nat.le_refl _, Nat.le_refl _⟩ (by decide) (c_X6_in (x := 6) (a := 0) (b := 6) rfl (by decide) (by decide) (fun c21 => ?_) (fun zz => absurd (by decide) zz))
      refine aw_if_ne (tgt := 30) dX6_tells_24 (by decide) (fun _ => ?_) (fun zz => absurd zz (by decide))
      obtain ⟨s, hs, rfl⟩ := sh4 c1
      obtain ⟨p, hp, rfl⟩ := c9
      have hn6 := hR.2.1.2
      have hm5 := hR.2.2.1.2
      refine aw_aload_n dX6_tells_30 rfl rfl ?_
      refine aw_gr dX6_tells_31 fw_X6_50 hM.1 hM.2.2.2.2.2.2.2.2.2.2.2.2.2.2.2.2.2.2.2.2.2.2.2.1 ?_
      refine aw_iload_n dX6_tells_34 rfl ?_
      refine aw_za s dX6_tells_35 hM.2.2.2.2.2.2.2.2.2.2.2.2.2.2.2.2.2.2.2.2.2.2.2.2.1 rfl hs (by decide) ?_
      refine aw_if_ne (tgt := 42) dX6_tells_36 (by decide) (fun c36 => ?_) (fun c36 => ?_)
      · obtain ⟨z, hz4, hsz⟩ := hz s hs c36
        have hle : I 62 s ≤ I 48 10 ↔ z ≤ n := by rw [hsz, hR.2.1.1]; exact nI_leI (by omega) (by omega)
        refine aw_aload_n dX6_tells_42 rfl rfl ?_
        refine aw_gr dX6_tells_43 fw_X6_57 hM.1 hM.2.2.2.2.2.2.2.2.2.2.2.2.2.2.2.2.2.2.2.2.2.2.2.2.2.2.2.1 ?_
        refine aw_iload_n dX6_tells_46 rfl ?_
        refine aw_ia s dX6_tells_47 hM.2.2.2.2.2.2.2.2.2.2.2.2.2.2.2.2.2.2.2.2.2.2.2.2.2.2.2.2.1 rfl hs (by decide) ?_
        refine aw_aload_n dX6_tells_48 rfl rfl ?_
        refine aw_gi dX6_tells_49 fw_X6_77 hM.1 ?_
        refine aw_icmp_le (tgt := 58) dX6_tells_52 (by decide) (fun c52 => ?_) (fun c52 => ?_)
        · have hzn := hle.mp c52
          refine aw_iload_n dX6_tells_58 rfl ?_
          refine aw_if_eq (tgt := 68) dX6_tells_59 (by decide) (fun zz => absurd zz (by decide)) (fun _ => ?_)
          refine aw_iload_n dX6_tells_62 rfl ?_
          refine aw_bipush (v := 6) dX6_tells_63 (by decide) ?_
          refine aw_icmp_ne (tgt := 87) dX6_tells_65 (by decide) (fun zz => absurd zz (by decide)) (fun _ => ?_)
          refine aw_iload_n dX6_tells_68 rfl ?_
          refine aw_if_ne (tgt := 81) dX6_tells_69 (by decide) (fun _ => ?_) (fun zz => absurd zz (by decide))
          refine aw_aload_n dX6_tells_81 rfl rfl ?_
          refine aw_iload_n dX6_tells_82 rfl ?_
          refine aw_V1 dX6_tells_83 cw_X6_420 ⟨_, _, rfl⟩ hM.1 (by omega) ⟨Nat.le_refl _, Nat.le_refl _⟩ (by decide) (c_X6_likeSet (by omega) hM hR hs hsz hzn (fun J K t => ?_))
          refine aw_ireturn (ty := .int) dX6_tells_86 rfl rfl ?_
          exact hS s p z hs hp rfl rfl c36 hsz hzn _ _ _ t rfl
        · refine aw_bipush (v := -2) dX6_tells_55 (by decide) ?_
          refine aw_ireturn (ty := .int) dX6_tells_57 rfl rfl ?_
          exact hB2 s p z hs hp rfl rfl c36 hsz ⟨hz4, (Nat.not_le.mp (fun w => c52 (hle.mpr w)))⟩
      · refine aw_bipush (v := -11) dX6_tells_39 (by decide) ?_
        refine aw_ireturn (ty := .int) dX6_tells_41 rfl rfl ?_
        exact hMs s p hs hp rfl rfl c36
    · refine aw_if_eq (tgt := 27) dX6_tells_12 (by decide) (fun _ => ?_) (fun zz => absurd zz (by decide))
      refine aw_bipush (v := -2) dX6_tells_27 (by decide) ?_
      refine aw_ireturn (ty := .int) dX6_tells_29 rfl rfl ?_
      exact hB (fun zz => c9 zz.2)
  · refine aw_if_eq (tgt := 27) dX6_tells_4 (by decide) (fun _ => ?_) (fun zz => absurd zz (by decide))
    refine aw_bipush (v := -2) dX6_tells_27 (by decide) ?_
    refine aw_ireturn (ty := .int) dX6_tells_29 rfl rfl ?_
    exact hB (fun zz => c1 zz.1)
theorem c_X6_tellsX {E : Ev} {d : Nat} {I : Mi} {L : Ml} {Z : Mz} {Q : Po} {x : Int32} {y : Int32} {w : Int32} {W : Nat → (Nat → Int32) → Int32} {ru n m : Nat} (hd : 2 ≤ d) (hM : MZ Z) (hR : RDM I W ru n m) (hw : ¬ (¬ w < 0 ∧ ¬ 6 < w)) (hB : Q (some (.int (-2))) I L Z) : AC E yX6_tells cX6_tells 11 (some .int) d 0 0 [.ref 48, .int x, .int y, .int w] I L Z Q := by
  refine ac_go (ls := [some (.ref 48), some (.int x), some (.int y), some (.int w), none, none, none, none, none, none, none]) (by decide +kernel) (Nat.le_of_ble_eq_true rfl) rfl ?_
  refine aw_iload_n dX6_tells_0 rfl ?_
  refine aw_S1 dX6_tells_1 cw_X6_415 (by omega) ⟨Nat.le_refl _, Nat.le_refl _⟩ (by decide) (c_X6_isSheet (by omega) (fun c1 => ?_) (fun c1 => ?_))
  · refine aw_if_eq (tgt := 27) dX6_tells_4 (by decide) (fun zz => absurd zz (by decide)) (fun _ => ?_)
    refine aw_aload_n dX6_tells_7 rfl rfl ?_
    refine aw_iload_n dX6_tells_8 rfl ?_
    refine aw_V1 dX6_tells_9 cw_X6_86 ⟨_, _, rfl⟩ hM.1 (by omega) ⟨Nat.le_refl _, Nat.le_refl _⟩ (by decide) (c_X6_isOne (by omega) hM hR.2.2.1.1 hR.2.2.1.2 (fun c9 => ?_) (fun c9 => ?_))
    · refine aw_if_eq (tgt := 27) dX6_tells_12 (by decide) (fun zz => absurd zz (by decide)) (fun _ => ?_)
      refine aw_iload_n dX6_tells_15 rfl ?_
      refine aw_i2l dX6_tells_16 ?_
      refine aw_lconst (v := 0) dX6_tells_17 (by decide) ?_
      refine aw_ldc2 dX6_tells_18 kw_X6_418 ?_
      refine aw_S3 dX6_tells_21 cw_X6_73 (by omega) ⟨Nat.le_refl _, Nat.le_refl _⟩ (by decide) (c_X6_in (x := w) (a := 0) (b := 6) rfl (by decide) (by decide) (fun zz => absurd zz hw) (fun c21 => ?_))
      refine aw_if_ne (tgt := 30) dX6_tells_24 (by decide) (fun zz => absurd zz (by decide)) (fun _ => ?_)
      refine aw_bipush (v := -2) dX6_tells_27 (by decide) ?_
      refine aw_ireturn (ty := .int) dX6_tells_29 rfl rfl ?_
      exact hB
    · refine aw_if_eq (tgt := 27) dX6_tells_12 (by decide) (fun _ => ?_) (fun zz => absurd zz (by decide))
      refine aw_bipush (v := -2) dX6_tells_27 (by decide) ?_
      refine aw_ireturn (ty := .int) dX6_tells_29 rfl rfl ?_
      exact hB
  · refine aw_if_eq (tgt := 27) dX6_tells_4 (by decide) (fun _ => ?_) (fun zz => absurd zz (by decide))
    refine aw_bipush (v := -2) dX6_tells_27 (by decide) ?_
    refine aw_ireturn (ty := .int) dX6_tells_29 rfl rfl ?_
    exact hB
def cpT (I : Mi) (N j : Nat) : Mi := rU I 49 (fun x => if 160 * N ≤ x ∧ x < 160 * N + j then I 51 (x - 160 * N) else I 49 x)
theorem cpT_row {I : Mi} {N j a : Nat} (h : a ≠ 49) : cpT I N j a = I a := by simp only [cpT, rU, if_neg h]
theorem cpT_0 {I : Mi} {N : Nat} : cpT I N 0 = I := by
  funext a k
  by_cases h : a = 49
  · subst h; simp only [cpT, rU, if_true]; rw [if_neg (by omega)]
  · rw [cpT_row h]
theorem cpT_s {I : Mi} {N j : Nat} : iU (cpT I N j) 49 (160 * N + j) (cpT I N j 51 j) = cpT I N (j + 1) := by
  rw [cpT_row (show (51 : Nat) ≠ 49 by decide)]
  funext a k
  by_cases h : a = 49
  · subst h
    by_cases h2 : k = 160 * N + j
    · subst h2; rw [iU_same]; simp only [cpT, rU, if_true]; rw [if_pos (by omega), show 160 * N + j - 160 * N = j by omega]
    · rw [iU_at (by omega)]; simp only [cpT, rU, if_true]
      by_cases h3 : 160 * N ≤ k ∧ k < 160 * N + j
      · rw [if_pos h3, if_pos (by omega)]
      · rw [if_neg h3, if_neg (by omega)]
  · rw [iU_at (by omega), cpT_row h, cpT_row h]
theorem cpT_at {I : Mi} {N j i : Nat} (h : i < j) : cpT I N j 49 (160 * N + i) = I 51 i := by
  simp only [cpT, rU, if_true]; rw [if_pos (by omega), show 160 * N + i - 160 * N = i by omega]
def tcM (I : Mi) (N n : Nat) : Mi := iU (iU (cpT I N n) 50 N (nI n)) 48 6 0
theorem l_X6_text {E : Ev} {d : Nat} {I : Mi} {L : Ml} {Z : Mz} {Q : Po} {N n : Nat} (hM : MZ Z) (hN : I 48 3 = nI N) (hN6 : N < 6) (hn : I 48 6 = nI n) (hn6 : n ≤ 160) : ∀ (k : Nat) (j : Nat), j + k = n → AW E yX6_text cX6_text 2 (some .int) (rmOf d 0 0) Q 0 0 49 [some (.ref 48), some (.int (nI n))] [] (cpT I N n) L Z → AW E yX6_text cX6_text 2 (some .int) (rmOf d 0 0) Q 0 0 14 [some (.ref 48), some (.int (nI j))] [] (cpT I N j) L Z := by
  intro k
  induction k with
  | zero =>
    intro j hj hQ
    refine aw_iload_n dX6_text_14 rfl ?_
    refine aw_aload_n dX6_text_15 rfl rfl ?_
    refine aw_gi dX6_text_16 fw_X6_135 hM.1 ?_
    refine aw_icmp_ge (tgt := 49) dX6_text_19 (by decide) (fun c19 => ?_) (fun zz => absurd (by rw [cpT_row (by omega), hn, show j = n by omega]; exact Int32.le_refl _) zz)
    rw [show j = n by omega]
    exact hQ
  | succ k ih =>
    intro j hj hQ
    refine aw_iload_n dX6_text_14 rfl ?_
    refine aw_aload_n dX6_text_15 rfl rfl ?_
    refine aw_gi dX6_text_16 fw_X6_135 hM.1 ?_
    refine aw_icmp_ge (tgt := 49) dX6_text_19 (by decide) (fun zz => absurd zz (by rw [cpT_row (by omega), hn]; exact nI_ge (by omega) (by omega))) (fun c19 => ?_)
    refine aw_aload_n dX6_text_22 rfl rfl ?_
    refine aw_gr dX6_text_23 fw_X6_13 hM.1 hM.2.1 ?_
    refine aw_sipush (v := 160) dX6_text_26 (by decide) ?_
    refine aw_aload_n dX6_text_29 rfl rfl ?_
    refine aw_gi dX6_text_30 fw_X6_67 hM.1 ?_
    refine aw_imul dX6_text_33 ?_
    refine aw_iload_n dX6_text_34 rfl ?_
    refine aw_iadd dX6_text_35 ?_
    refine aw_aload_n dX6_text_36 rfl rfl ?_
    refine aw_gr dX6_text_37 fw_X6_20 hM.1 hM.2.2.2.2.2.1 ?_
    refine aw_iload_n dX6_text_40 rfl ?_
    refine aw_ia j dX6_text_41 hM.2.2.2.2.2.2.1 rfl (by omega) (by decide) ?_
    refine aw_is (160 * N + j) dX6_text_42 hM.2.2.1 (by rw [cpT_row (by omega), hN]; show nI 160 * nI N + nI j = _; rw [pk_mul, nI_add]) (by omega) (by decide) ?_
    refine aw_iinc (v := nI (j + 1)) (ls' := [_, _]) dX6_text_43 rfl (nI_1 j) (by decide) rfl rfl ?_
    refine aw_goto (tgt := 14) dX6_text_46 (by decide) ?_
    rw [cpT_s]
    exact ih (j + 1) (by omega) hQ
theorem c_X6_text {E : Ev} {d : Nat} {I : Mi} {L : Ml} {Z : Mz} {Q : Po}  {B : Nat → Int32} {N n : Nat} (hd : 42 ≤ d) (hM : MZ Z) (hN : I 48 3 = nI N) (hN6 : N ≤ 6) (hn : I 48 6 = nI n) (hn6 : n ≤ 160) (hB : ∀ i, i < n → I 51 i = B i ∧ ¬ B i < 0) (hFl : N = 6 → Q (some (.int (-4))) I L Z) (hK : N < 6 → ∀ (k' : Nat) (x1 x2 x3 : List Int32 × Vl), txR (SS B n) (VV B n) = (k', some (x1, x2, x3)) → ∀ (I9 : Mi) (L9 : Ml), SaM (iU (tcM I N n) 48 3 (nI (N + 1))) I9 → Q (some (.int (nI N))) I9 L9 Z) (hF : N < 6 → ∀ k' : Nat, txR (SS B n) (VV B n) = (k', none) → ∀ (I9 : Mi) (L9 : Ml), SaM (tcM I N n) I9 → Q (some (.int (-100 - nI (plF B n k')))) I9 L9 Z) : AC E yX6_text cX6_text 2 (some .int) d 0 0 [.ref 48] I L Z Q := by
  refine ac_go (ls := [some (.ref 48), none]) (by decide +kernel) (Nat.le_of_ble_eq_true rfl) rfl ?_
  have hq6 : I 48 3 = 6 ↔ N = 6 := by rw [hN]; exact nI_eq (b := 6) (by omega) (by decide)
  refine aw_aload_n dX6_text_0 rfl rfl ?_
  refine aw_gi dX6_text_1 fw_X6_67 hM.1 ?_
  refine aw_bipush (v := 6) dX6_text_4 (by decide) ?_
  refine aw_icmp_ne (tgt := 12) dX6_text_6 (by decide) (fun c6 => ?_) (fun c6 => ?_)
  · refine aw_iconst (v := 0) dX6_text_12 (by decide) ?_
    refine aw_istore_n (ls' := [_, _]) dX6_text_13 (by decide) rfl rfl ?_
    have hlt : N < 6 := ne_le hN6 (fun w => c6 (hq6.mpr w))
    have ez := @cpT_0 I N
    refine ez ▸ l_X6_text hM hN hlt hn hn6 n 0 (by omega) ?_
    refine aw_aload_n dX6_text_49 rfl rfl ?_
    refine aw_gr dX6_text_50 fw_X6_17 hM.1 hM.2.2.2.1 ?_
    refine aw_aload_n dX6_text_53 rfl rfl ?_
    refine aw_gi dX6_text_54 fw_X6_67 hM.1 ?_
    refine aw_aload_n dX6_text_57 rfl rfl ?_
    refine aw_gi dX6_text_58 fw_X6_135 hM.1 ?_
    refine aw_is N dX6_text_61 hM.2.2.2.2.1 (by rw [cpT_row (by omega)]; exact hN) hlt (by decide) ?_
    rw [show cpT I N n 48 6 = nI n by rw [cpT_row (by omega)]; exact hn]
    refine aw_aload_n dX6_text_62 rfl rfl ?_
    refine aw_iconst (v := 0) dX6_text_63 (by decide) ?_
    refine aw_pi dX6_text_64 fw_X6_135 (ww_X6_135 _) hM.1 rfl ?_
    rw [show iU (iU (cpT I N n) 50 N (nI n)) 48 6 0 = tcM I N n from rfl]
    refine aw_aload_n dX6_text_67 rfl rfl ?_
    refine aw_aload_n dX6_text_68 rfl rfl ?_
    refine aw_gi dX6_text_69 fw_X6_67 hM.1 ?_
    have hT3 : tcM I N n 48 3 = nI N := by unfold tcM; rw [iU_at (by omega), iU_at (by omega), cpT_row (by omega)]; exact hN
    rw [hT3]
    refine aw_iconst (v := 0) dX6_text_72 (by decide) ?_
    refine aw_V2 dX6_text_73 cw_X6_338 ⟨_, _, rfl⟩ hM.1 (by omega) ⟨Nat.le_refl _, Nat.le_refl _⟩ (by decide) (c_X6_readText0 (B := B) (n := n) (by omega) hM hlt (by unfold tcM; rw [iU_at (by omega), iU_same]) hn6 (fun i hi => ⟨by unfold tcM; rw [iU_at (by omega), iU_at (by omega), cpT_at hi]; exact (hB i hi).1, (hB i hi).2⟩) (fun k9 y1 y2 y3 ex I9 L9 s9 b9 => ?_) (fun k9 ex rv9 I9 L9 s9 m9 => ?_))
    · refine aw_istore_n (ls' := [_, _]) dX6_text_76 (by decide) rfl rfl ?_
      refine aw_aload_n dX6_text_77 rfl rfl ?_
      refine aw_gi dX6_text_78 fw_X6_170 hM.1 ?_
      refine aw_if_eq (tgt := 92) dX6_text_81 (by decide) (fun c81 => ?_) (fun zz => absurd b9 zz)
      refine aw_aload_n dX6_text_92 rfl rfl ?_
      refine aw_dup dX6_text_93 rfl ?_
      refine aw_gi dX6_text_94 fw_X6_67 hM.1 ?_
      refine aw_iconst (v := 1) dX6_text_97 (by decide) ?_
      refine aw_iadd dX6_text_98 ?_
      have e3 : I9 48 3 = nI N := by rw [s9 _ _ (by omega)]; exact hT3
      rw [e3, nI_1]
      refine aw_pi dX6_text_99 fw_X6_67 (ww_X6_67 _) hM.1 rfl ?_
      refine aw_aload_n dX6_text_102 rfl rfl ?_
      refine aw_gi dX6_text_103 fw_X6_67 hM.1 ?_
      refine aw_iconst (v := 1) dX6_text_106 (by decide) ?_
      refine aw_isub dX6_text_107 ?_
      refine aw_ireturn (ty := .int) dX6_text_108 rfl rfl ?_
      rw [iU_same, nI_pred]
      exact hK (ne_le hN6 (fun w => c6 (hq6.mpr w))) _ _ _ _ ex _ _ (SaM.iu s9.m)
    · refine aw_istore_n (ls' := [_, _]) dX6_text_76 (by decide) rfl rfl ?_
      refine aw_aload_n dX6_text_77 rfl rfl ?_
      refine aw_gi dX6_text_78 fw_X6_170 hM.1 ?_
      refine aw_if_eq (tgt := 92) dX6_text_81 (by decide) (fun zz => absurd zz (by rw [m9.1]; decide)) (fun c81 => ?_)
      refine aw_bipush (v := -100) dX6_text_84 (by decide) ?_
      refine aw_aload_n dX6_text_86 rfl rfl ?_
      refine aw_gi dX6_text_87 fw_X6_174 hM.1 ?_
      refine aw_isub dX6_text_90 ?_
      refine aw_ireturn (ty := .int) dX6_text_91 rfl rfl ?_
      rw [m9.2]
      exact hF (ne_le hN6 (fun w => c6 (hq6.mpr w))) _ ex _ _ s9.m
  · refine aw_bipush (v := -4) dX6_text_9 (by decide) ?_
    refine aw_ireturn (ty := .int) dX6_text_11 rfl rfl ?_
    exact hFl (hq6.mp c6)

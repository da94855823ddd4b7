/-! ===== PURE 13: calls with a record; blurring ===== -/
def SIMM (v : V_St) (f : Nat → Int32) (fc : Option (Int32 × V_St)) (fm : V_Md → Option (Int32 × V_Md)) : Prop :=
  (∃ e : Int32, e < 0 ∧ fc = some (e, v) ∧ ∀ M : V_Md, M.1 = f → fm M = some (e, M)) ∨
  (∃ (a : Int32) (v' : V_St) (f' : Nat → Int32) (n' s' : Nat), 0 ≤ a ∧ fc = some (a, v') ∧ (∀ M M' : V_Md, M.1 = f → f_Md_record M = some M' → M'.1 = f → fm M = some (a, (f', M'.2))) ∧ INV v' n' s' ∧ REL v' f' n' s')
theorem neg_ne {e : Int32} (h : e < 0) : ¬ e = 0 := fun q => by
  rw [q] at h
  exact absurd h (by decide)
section MM
variable {v : V_St} {f : Nat → Int32} {fc : Option (Int32 × V_St)}
theorem M_begin (h : SIM v fc (f_Md_whyNotBegin f) (f_Md_beginOn f)) : SIMM v f fc f_Md_begin := by
  rcases h with ⟨e, h1, h2, h3⟩ | ⟨a, v', f', n', s', h1, h2, h3, h4, h5, h6⟩
  · refine Or.inl ⟨e, h1, h2, fun M hM => ?_⟩
    unfold f_Md_begin
    rw [hM, h3, oc_s, ob_f (neg_ne h1)]
  · refine Or.inr ⟨a, v', f', n', s', h1, h2, fun M M' hM hr hM' => ?_, h5, h6⟩
    unfold f_Md_begin
    rw [hM, h3, oc_s, ob_rfl, hr, oc_s, hM', h4, oc_s]
theorem M_write {x y z : Int32} (h : SIM v fc (f_Md_whyNotWrite x y z f) (f_Md_writeOn x y z f)) : SIMM v f fc (f_Md_write x y z) := by
  rcases h with ⟨e, h1, h2, h3⟩ | ⟨a, v', f', n', s', h1, h2, h3, h4, h5, h6⟩
  · refine Or.inl ⟨e, h1, h2, fun M hM => ?_⟩
    unfold f_Md_write
    rw [hM, h3, oc_s, ob_f (neg_ne h1)]
  · refine Or.inr ⟨a, v', f', n', s', h1, h2, fun M M' hM hr hM' => ?_, h5, h6⟩
    unfold f_Md_write
    rw [hM, h3, oc_s, ob_rfl, hr, oc_s, hM', h4, oc_s]
theorem M_finish {x : Int32} (h : SIM v fc (f_Md_whyNotFinish x f) (f_Md_finishOn x f)) : SIMM v f fc (f_Md_finish x) := by
  rcases h with ⟨e, h1, h2, h3⟩ | ⟨a, v', f', n', s', h1, h2, h3, h4, h5, h6⟩
  · refine Or.inl ⟨e, h1, h2, fun M hM => ?_⟩
    unfold f_Md_finish
    rw [hM, h3, oc_s, ob_f (neg_ne h1)]
  · refine Or.inr ⟨a, v', f', n', s', h1, h2, fun M M' hM hr hM' => ?_, h5, h6⟩
    unfold f_Md_finish
    rw [hM, h3, oc_s, ob_rfl, hr, oc_s, hM', h4, oc_s]
theorem M_tear {x : Int32} (h : SIM v fc (f_Md_whyNotTear x f) (f_Md_tearOn x f)) : SIMM v f fc (f_Md_tear x) := by
  rcases h with ⟨e, h1, h2, h3⟩ | ⟨a, v', f', n', s', h1, h2, h3, h4, h5, h6⟩
  · refine Or.inl ⟨e, h1, h2, fun M hM => ?_⟩
    unfold f_Md_tear
    rw [hM, h3, oc_s, ob_f (neg_ne h1)]
  · refine Or.inr ⟨a, v', f', n', s', h1, h2, fun M M' hM hr hM' => ?_, h5, h6⟩
    unfold f_Md_tear
    rw [hM, h3, oc_s, ob_rfl, hr, oc_s, hM', h4, oc_s]
theorem M_putAway {x : Int32} (h : SIM v fc (f_Md_whyNotPutAway x f) (f_Md_putAwayOn x f)) : SIMM v f fc (f_Md_putAway x) := by
  rcases h with ⟨e, h1, h2, h3⟩ | ⟨a, v', f', n', s', h1, h2, h3, h4, h5, h6⟩
  · refine Or.inl ⟨e, h1, h2, fun M hM => ?_⟩
    unfold f_Md_putAway
    rw [hM, h3, oc_s, ob_f (neg_ne h1)]
  · refine Or.inr ⟨a, v', f', n', s', h1, h2, fun M M' hM hr hM' => ?_, h5, h6⟩
    unfold f_Md_putAway
    rw [hM, h3, oc_s, ob_rfl, hr, oc_s, hM', h4, oc_s]
theorem M_save {x : Int32} (h : SIM v fc (f_Md_whyNotSave x f) (saveOn x f)) : SIMM v f fc (f_Md_save x) := by
  rcases h with ⟨e, h1, h2, h3⟩ | ⟨a, v', f', n', s', h1, h2, h3, h4, h5, h6⟩
  · refine Or.inl ⟨e, h1, h2, fun M hM => ?_⟩
    unfold f_Md_save
    rw [hM, h3, oc_s, ob_f (neg_ne h1)]
  · refine Or.inr ⟨a, v', f', n', s', h1, h2, fun M M' hM hr hM' => ?_, h5, h6⟩
    unfold saveOn at h4
    obtain ⟨g, h7, h8⟩ := oc_e h4
    obtain ⟨h9, h10⟩ := og_e h8
    have h11 := Option.some.inj h10
    have h12 : g = f' := congrArg (fun z => z.2) h11
    have h13 : g (58 : Int32).toNatClampNeg = a := congrArg (fun z => z.1) h11
    unfold f_Md_save
    rw [hM, h3, oc_s, ob_rfl, hr, oc_s, hM', h7, oc_s, og_t h9, h13, h12]
end MM
theorem M_flood {v : V_St} {f : Nat → Int32} {n s : Nat} (I : INV v n s) (R : REL v f n s) : SIMM v f (f_St_takeFlood v) f_Md_flood := by
  obtain ⟨v', f', h1, h2, h3, h4, h5, h6, h7⟩ := s_flood I R
  refine Or.inr ⟨nI (n - s), v', f', s, s, nI_pos' (by omega), h1, fun M M' hM hr hM' => ?_, h3, h4⟩
  unfold f_Md_flood
  rw [hr, oc_s, hM', h2, oc_s]
theorem rg_arg (x : Int32) {b : Int64} {hi : Nat} (hb : b.toInt = (hi : Int)) : (x < nI 1 ∧ f_Md_in x.toInt64 1 b = some 0) ∨ (∃ j : Nat, 1 ≤ j ∧ j ≤ hi ∧ j < 2147483648 ∧ x = nI j ∧ f_Md_in x.toInt64 1 b = some 1) ∨ (∃ j : Nat, 1 ≤ j ∧ hi < j ∧ j < 2147483648 ∧ x = nI j ∧ f_Md_in x.toInt64 1 b = some 0) := by
  rcases i_cases x with h | ⟨j, h1, rfl⟩
  · refine Or.inl ⟨i_neg_lt h (by omega), r_inN ?_⟩
    rintro ⟨a, -⟩
    have : (1 : Int) ≤ x.toInt := a
    have := i_negI h
    omega
  · by_cases q0 : 1 ≤ j
    · by_cases q : j ≤ hi
      · refine Or.inr (Or.inl ⟨j, q0, q, h1, rfl, r_in ?_⟩)
        rw [i_tI (by omega), hb]
        exact ⟨by show (1 : Int) ≤ _; omega, by omega⟩
      · refine Or.inr (Or.inr ⟨j, q0, by omega, h1, rfl, r_inN ?_⟩)
        rw [i_tI (by omega), hb]
        rintro ⟨-, b⟩
        omega
    · refine Or.inl ⟨nI_lt (by omega) (by omega), r_inN ?_⟩
      rw [i_tI (by omega)]
      rintro ⟨a, -⟩
      have : (1 : Int) ≤ (j : Int) := a
      omega
theorem blur_0 : ∀ k i N (l2 : Int32) (M : V_Md), i + k = 8 → k < N → f_Md_blur_59 N l2 0 (nI i) M = some (-5, M) := by
  intro k
  induction k with
  | zero =>
    intro i N l2 M hi hN
    obtain ⟨N, rfl⟩ : ∃ q, N = q + 1 := ⟨N - 1, by omega⟩
    rw [e_Md_blur_59, k8, ob_let (by omega) (by omega), ob_rfl]
  | succ k ih =>
    intro i N l2 M hi hN
    obtain ⟨N, rfl⟩ : ∃ q, N = q + 1 := ⟨N - 1, by omega⟩
    rw [e_Md_blur_59, k8, ob_lef (by omega) (by omega), ob_rfl, kk1, i_add]
    exact ih (i + 1) N l2 M (by omega) (by omega)
noncomputable def blurT (b : Nat) (M : V_Md) : Option (Int32 × V_Md) := oc (f_Md_record M) (fun q_104 => oc (f_Md_lose (nI b) q_104.1) (fun q_112 => some (nI b, (q_112, q_104.2.1, q_104.2.2.1, q_104.2.2.2.1, q_104.2.2.2.2.1, q_104.2.2.2.2.2.1, q_104.2.2.2.2.2.2.1, q_104.2.2.2.2.2.2.2.1, q_104.2.2.2.2.2.2.2.2))))
theorem blur_1 {f : Nat → Int32} {mk : Nat → Nat} {b : Nat} (hm : ∀ p, p < 8 → f (8 + p) = nI (mk p) ∧ mk p < 2147483648) (hb : b < 2147483648) : ∀ k i N (M : V_Md), i + k = 8 → k < N → M.1 = f → ((∀ p, i ≤ p → p < 8 → mk p ≤ b) → f_Md_blur_59 N (nI b) 1 (nI i) M = blurT b M) ∧ (¬ (∀ p, i ≤ p → p < 8 → mk p ≤ b) → f_Md_blur_59 N (nI b) 1 (nI i) M = some (-5, M)) := by
  intro k
  induction k with
  | zero =>
    intro i N M hi hN hM
    obtain ⟨N, rfl⟩ : ∃ q, N = q + 1 := ⟨N - 1, by omega⟩
    refine ⟨fun _ => ?_, fun q => absurd (fun p a b => by omega) q⟩
    rw [e_Md_blur_59, k8, ob_let (by omega) (by omega), ob_f d10]
    rfl
  | succ k ih =>
    intro i N M hi hN hM
    obtain ⟨N, rfl⟩ : ∃ q, N = q + 1 := ⟨N - 1, by omega⟩
    obtain ⟨e1, e2⟩ := hm i (by omega)
    obtain ⟨j1, j2⟩ := ih (i + 1) N M (by omega) (by omega) hM
    have eh : f_Md_blur_59 (N + 1) (nI b) 1 (nI i) M = ob (nI b < nI (mk i)) (f_Md_blur_59 N (nI b) 0 (nI (i + 1)) M) (f_Md_blur_59 N (nI b) 1 (nI (i + 1)) M) := by
      rw [e_Md_blur_59, k8, ob_lef (by omega) (by omega), ob_f d10, i_add, og_in (by omega) (by omega), i_cl (by omega), hM, e1, kk1, i_add]
    rw [eh]
    by_cases q : mk i ≤ b
    · rw [ob_ltf (by omega) (by omega)]
      refine ⟨fun h => j1 (fun p x y => h p (by omega) y), fun h => j2 (fun z => h (fun p x y => ?_))⟩
      by_cases e : p = i
      · rw [e]; exact q
      · exact z p (by omega) y
    · rw [ob_ltt (by omega) (by omega)]
      exact ⟨fun h => absurd (h i (by omega) (by omega)) q, fun _ => blur_0 k (i + 1) N _ M (by omega) (by omega)⟩
theorem sub_neg5 : ∀ b, b < 6 → ∀ a, a < b → nI a - nI b < 0 := by decide +kernel
theorem s_blur {v : V_St} {f : Nat → Int32} {n s : Nat} (I : INV v n s) (R : REL v f n s) (x : Int32) : SIMM v f (f_St_blurEntries x v) (f_Md_blur x) := by
  obtain ⟨⟨w1, w2, w3⟩, i2, i3, i4, i5, i6, i7, i8, i9⟩ := I
  obtain ⟨⟨l1, l2, l3, l4⟩, r2, r3, r4, r5, r6, r7, r8, r9, r10⟩ := R
  have h300 := VL_300 w2
  have h16 := nwk_16 n w2
  rcases rg_arg x (b := 5) (hi := 5) rfl with ⟨a1, a2⟩ | ⟨m, hm1, hm2, hm3, rfl, a2⟩ | ⟨m, hm1, hm2, hm3, rfl, a2⟩
  · refine Or.inl ⟨-2, by decide, ?_, fun M hM => ?_⟩
    · unfold f_St_blurEntries; rw [ob_t (show x < (1 : Int32) from a1)]
    · unfold f_Md_blur; rw [a2, oc_s, ob_rfl]
  rotate_left
  · refine Or.inl ⟨-2, by decide, ?_, fun M hM => ?_⟩
    · unfold f_St_blurEntries; rw [kk1, ob_ltf (by omega) (by omega), k5, ob_lef (by omega) (by omega)]
    · unfold f_Md_blur; rw [a2, oc_s, ob_rfl]
  have hsz : v.2.1.2.2.2.2.2.2.2.1 = nI n := w1
  have eC : f_St_blurEntries (nI m) v = ob (mdg v = 0) (some ((-5 : Int32), v)) (ob (bgn v = 0) (ob (nI n - nI m < 0) (some ((-5 : Int32), v)) (oc (f_Pg_highestShelfMark v.1) (fun q_48 => ob (q_48 ≤ nI n - nI m) (oc (f_St_loseEntries (nI m) v) (fun q_60 => some ((nI n - nI m), q_60))) (some ((-5 : Int32), v))))) (some ((-5 : Int32), v))) := by
    unfold f_St_blurEntries
    rw [ob_f (show ¬ nI m < (1 : Int32) from nI_nlt (by omega) (by omega)), ob_t (show nI m ≤ (5 : Int32) by rw [k5]; exact nI_le hm2 (by omega)), hsz]
  have eM : ∀ M : V_Md, M.1 = f → f_Md_blur (nI m) M = ob (f 66 = 1) (ob (f 60 = 0) (ob (nI n - nI m < 0) (f_Md_blur_59 FU (nI n - nI m) 0 0 M) (f_Md_blur_59 FU (nI n - nI m) 1 0 M)) (f_Md_blur_59 FU (nI n - nI m) 0 0 M)) (f_Md_blur_59 FU (nI n - nI m) 0 0 M) := by
    intro M hM
    unfold f_Md_blur
    rw [a2, oc_s, ob_f d10, k57, og_in (by omega) (by omega), k66, og_in (by omega) (by omega), k60, og_in (by omega) (by omega), i_cl (by omega), i_cl (by omega), i_cl (by omega), hM, l2]
  have b0 : ∀ (y : Int32) (M : V_Md), f_Md_blur_59 FU y 0 0 M = some (-5, M) := fun y M => blur_0 8 0 FU y M (by omega) (by unfold FU; omega)
  by_cases c1 : mdg v = 0
  · refine Or.inl ⟨-5, by decide, by rw [eC, ob_t c1], fun M hM => ?_⟩
    rw [eM M hM]
    by_cases q : f 66 = 1
    · rw [ob_t q]
      rcases i6 with q2 | q2
      · have := (r9 q2).mp q
        exact absurd (c1.symm.trans this) d01
      · rw [ob_f (by rw [r5, q2]; exact d10), b0]
    · rw [ob_f q, b0]
  have c1' := i5.resolve_left c1
  by_cases c2 : bgn v = 0
  rotate_left
  · refine Or.inl ⟨-5, by decide, by rw [eC, ob_f c1, ob_f c2], fun M hM => ?_⟩
    rw [eM M hM]
    by_cases q : f 66 = 1
    · rw [ob_t q, ob_f (by rw [r5]; exact c2), b0]
    · rw [ob_f q, b0]
  obtain ⟨hsn, h8, h9⟩ := i8 c1' c2
  subst hsn
  have e66 : f 66 = 1 := (r9 c2).mpr c1'
  have e60 : f 60 = 0 := r5.trans c2
  by_cases c3 : s < m
  · have hneg := sub_neg5 m (by omega) s c3
    refine Or.inl ⟨-5, by decide, by rw [eC, ob_f c1, ob_t c2, ob_t hneg], fun M hM => ?_⟩
    rw [eM M hM, ob_t e66, ob_t e60, ob_t hneg, b0]
  have esub : nI s - nI m = nI (s - m) := i_sub (by omega)
  have hnn : ¬ nI (s - m) < 0 := by
    rw [k0]
    exact nI_nlt (by omega) (by omega)
  have hmk : ∀ p, p < 8 → v.1.2.1 p = nI (v.1.2.1 p).toNatClampNeg ∧ (v.1.2.1 p).toNatClampNeg < 2147483648 := fun p hp => by
    obtain ⟨⟨k, x1, x2⟩, -⟩ := i4 p hp
    rw [x2, i_cl (by omega)]
    exact ⟨rfl, by omega⟩
  obtain ⟨T, hT1, hT2, hT3⟩ := c_high hmk
  have hB := blur_1 (f := f) (mk := fun p => (v.1.2.1 p).toNatClampNeg) (b := s - m) (fun p hp => by
    obtain ⟨-, x2, -⟩ := r2 p hp
    rw [x2]
    exact hmk p hp) (by omega) 8 0 FU
  by_cases c4 : T ≤ s - m
  rotate_left
  · refine Or.inl ⟨-5, by decide, ?_, fun M hM => ?_⟩
    · rw [eC, ob_f c1, ob_t c2, esub, ob_f hnn, hT2, oc_s, ob_lef (by omega) (by omega)]
    · rw [eM M hM, ob_t e66, ob_t e60, esub, ob_f hnn]
      exact (hB M (by omega) (by unfold FU; omega) hM).2 (fun q => c4 ((hT3 _).mpr (fun p hp => q p (by omega) hp)))
  have hmks := (hT3 _).mp c4
  have e2 : s - (s - m) = m := by omega
  have hVm := VL_le w2 (show s - m ≤ s by omega)
  have hg : ∀ i, 1 ≤ i → i ≤ s - m → lgD v.2.1 i = lgR f i := fun i a b => l1 i a (by omega)
  obtain ⟨k', t1, t2⟩ := c_lose (v := v) (m := m) ⟨w1, w2, w3⟩ i2 (Nat.le_refl _) (by omega)
  have e3 : min s (s - m) = s - m := Nat.min_eq_right (by omega)
  rw [e3] at t1
  obtain ⟨f', g1, g2, g3, g4, g5, g6, g7⟩ := r_lose (m := s - m) l2 (VL_cg _ hg hVm) (by omega) h300 r3 (Nat.le_refl _)
  rw [e3] at g5
  rw [e2] at g6
  refine Or.inr ⟨nI (s - m), (v.1, (v.2.1.1, v.2.1.2.1, v.2.1.2.2.1, v.2.1.2.2.2.1, v.2.1.2.2.2.2.1, v.2.1.2.2.2.2.2.1, v.2.1.2.2.2.2.2.2.1, nI (s - m), nI (s - m)), k', v.2.2.2.1, v.2.2.2.2.1, v.2.2.2.2.2.1, v.2.2.2.2.2.2.1, v.2.2.2.2.2.2.2.1, v.2.2.2.2.2.2.2.2 + nI m), f', s - m, s - m, nI_pos' (by omega), ?_, ?_, ?_, ?_⟩
  · rw [eC, ob_f c1, ob_t c2, esub, ob_f hnn, hT2, oc_s, ob_let c4 (by omega), t1, oc_s]
  · intro M M' hM hr hM'
    rw [eM M hM, ob_t e66, ob_t e60, esub, ob_f hnn]
    have := (hB M (by omega) (by unfold FU; omega) hM).1 (fun p _ hp => hmks p hp)
    refine Eq.trans this ?_
    unfold blurT
    rw [hr, oc_s, hM', g1, oc_s]
  · refine ⟨⟨rfl, hVm, t2⟩, rfl, Nat.le_refl _, fun p hp => ?_, i5, i6, fun q => absurd q c1, fun _ _ => ⟨rfl, h8, h9⟩, fun _ => ⟨1, h8, by omega, by omega⟩⟩
    obtain ⟨-, y, -⟩ := i4 p hp
    exact ⟨⟨_, hmks p hp, (hmk p hp).1⟩, y, fun q => absurd q (h9 p hp)⟩
  · refine ⟨⟨fun i a b => ?_, g2, ?_, fun w hw => ?_⟩, PGR_cg r2 (fun j hj => g7 j (by omega) (by omega)), g5, ?_, ?_, ?_, ?_, ?_, fun q => ?_, fun _ q => absurd (c2.symm.trans q) d01⟩
    · have : lgR f' i = lgR f i := by
        unfold lgR
        simp (disch := omega) only [g7]
      rw [this]
      exact hg i a b
    · rw [g3, ← nwk_cg _ hg]
      rfl
    · have hw' : w < nwk (lgD v.2.1) (s - m) := hw
      rw [g4 w (by rw [← nwk_cg _ hg]; exact hw')]
      unfold sta
      have e3 := wk_has _ hVm w hw'
      rw [← lst_cg (nI w) _ hg, ← hg _ e3 (lst_le _ _ _)]
      rfl
    · rw [g7 59 (by omega) (by omega)]; exact r4
    · rw [g7 60 (by omega) (by omega)]; exact r5
    · rw [g7 63 (by omega) (by omega)]; exact r6
    · rw [g7 64 (by omega) (by omega)]; exact r7
    · rw [g6, r8]
    · rw [g7 66 (by omega) (by omega)]; exact r9 q

/-! ===== PURE 12: losing, the flood, blurring ===== -/
theorem r_lose {f : Nat → Int32} {n s m : Nat} (hn : f 57 = nI n) (hV : VL (lgR f) m) (hm : m ≤ n) (h3 : n ≤ 300) (hs : f 58 = nI s) (hsn : s ≤ n) :
    ∃ f', f_Md_lose (nI m) f = some f' ∧ f' 57 = nI m ∧ f' 56 = nI (nwk (lgR f) m) ∧ (∀ w, w < nwk (lgR f) m → f' (40 + w) = sta (lgR f) (nI w) m) ∧ f' 58 = nI (min s m) ∧ f' 65 = f 65 + nI (n - m) ∧ ∀ j, j < 40 ∨ 59 ≤ j → j ≠ 65 → f' j = f j := by
  have key : ∀ k i N (g : Nat → Int32), i + k = m → k < N → g 56 = nI (nwk (lgR f) i) → (∀ w, w < nwk (lgR f) i → g (40 + w) = sta (lgR f) (nI w) i) → (∀ j, 67 ≤ j → g j = f j) →
      ∃ f', f_Md_lose_45 N (nI m) (nI (i + 1)) g = some f' ∧ f' 56 = nI (nwk (lgR f) m) ∧ (∀ w, w < nwk (lgR f) m → f' (40 + w) = sta (lgR f) (nI w) m) ∧ ∀ j, j < 40 ∨ 57 ≤ j → f' j = g j := by
    intro k
    induction k with
    | zero =>
      intro i N g hi hN h56 h40 ho
      obtain ⟨N, rfl⟩ : ∃ q, N = q + 1 := ⟨N - 1, by omega⟩
      have : i = m := by omega
      subst this
      refine ⟨g, ?_, h56, h40, fun j _ => rfl⟩
      rw [e_Md_lose_45, ob_ltt (by omega) (by omega)]
    | succ k ih =>
      intro i N g hi hN h56 h40 ho
      obtain ⟨N, rfl⟩ : ∃ q, N = q + 1 := ⟨N - 1, by omega⟩
      have hV1 : VL (lgR f) (i + 1) := VL_le hV (by omega)
      have h16 := nwk_16 _ hV1
      have h16' := nwk_16 _ hV1.1
      obtain ⟨w, hw1, hw2⟩ := wk_of (i + 1) hV1 (i + 1) (by omega) (Nat.le_refl _)
      have hd : ∀ v, v < nwk (lgR f) (i + 1) → v ≠ w → ¬ (lgR f (i + 1)).2.1 = nI v := fun v a b q => b (i_inj (by omega) (by omega) (q.symm.trans hw2))
      have e0 : g (67 + 7 * (i + 1 - 1) + 0) = (lgR f (i + 1)).1 := by rw [ho _ (by omega)]; rfl
      have e1 : g (67 + 7 * (i + 1 - 1) + 1) = nI w := by rw [ho _ (by omega), ← hw2]; rfl
      have hl := lst_hit hw2
      have step : ∀ (T : Nat → Int32), f_Md_lose_45 (N + 1) (nI m) (nI (i + 1)) g = f_Md_lose_45 N (nI m) (nI (i + 1 + 1)) T → T 56 = nI (nwk (lgR f) (i + 1)) → (∀ v, v < nwk (lgR f) (i + 1) → T (40 + v) = sta (lgR f) (nI v) (i + 1)) → (∀ j, j < 40 ∨ 57 ≤ j → T j = g j) → ∃ f', f_Md_lose_45 (N + 1) (nI m) (nI (i + 1)) g = some f' ∧ f' 56 = nI (nwk (lgR f) m) ∧ (∀ w, w < nwk (lgR f) m → f' (40 + w) = sta (lgR f) (nI w) m) ∧ ∀ j, j < 40 ∨ 57 ≤ j → f' j = g j := by
        intro T a1 a2 a3 a4
        obtain ⟨f', b1, b2, b3, b4⟩ := ih (i + 1) N T (by omega) (by omega) a2 a3 (fun j hj => (a4 j (by omega)).trans (ho j hj))
        exact ⟨f', a1.trans b1, b2, b3, fun j hj => (b4 j hj).trans (a4 j hj)⟩
      have head : f_Md_lose_45 (N + 1) (nI m) (nI (i + 1)) g = ob ((lgR f (i + 1)).1 = 0) (f_Md_lose_45 N (nI m) (nI (i + 1 + 1)) (upd (upd g 56 (nI (nwk (lgR f) i + 1))) (40 + w) 0)) (ob ((lgR f (i + 1)).1 = 3) (f_Md_lose_104 (f_Md_lose_45 N) (nI m) (nI (i + 1)) (nI w) (lgR f (i + 1)).1 g) (ob ((lgR f (i + 1)).1 = 4) (f_Md_lose_104 (f_Md_lose_45 N) (nI m) (nI (i + 1)) (nI w) (lgR f (i + 1)).1 g) (f_Md_lose_45 N (nI m) (nI (i + 1 + 1)) g))) := by
        rw [e_Md_lose_45, ob_ltf (by omega) (by omega), r_at (by omega), oc_s, kk1, i_add, og_in (by omega) (by omega), i_cl (by omega), e1, oc_s, k0, i_add, og_in (by omega) (by omega), i_cl (by omega), e0, k56, og_in (by omega) (by omega), og_in (by omega) (by omega), i_cl (by omega), h56, nx_s, k40, i_add, og_in (by omega) (by omega), i_cl (by omega), nx_s, i_add, i_add]
      rcases vent_k hV1.2 with e | e | e | e | e
      · have hn' := nwk_b e
        have hwn : w = nwk (lgR f) i := i_inj (by omega) (by omega) (hw2.symm.trans (vent_0 hV1.2 e).1)
        refine step (upd (upd g 56 (nI (nwk (lgR f) i + 1))) (40 + w) 0) (by rw [head, ob_t e]) ?_ ?_ ?_
        · rw [up_n _ _ (by omega), up_s, hn']
        · intro v hv
          by_cases q : v = w
          · subst q
            rw [up_s]
            unfold sta
            rw [hl, e]
            rfl
          · rw [up_n _ _ (by omega), up_n _ _ (by omega), h40 v (by omega), sta_miss (hd v hv q)]
        · intro j hj
          rw [up_n _ _ (by omega), up_n _ _ (by omega)]
      · have hn' := nwk_n (L := lgR f) (n := i) (by rw [e]; exact d10)
        have ho' := vent_o hV1.2 (by rw [e]; exact d10)
        rw [hw2] at ho'
        refine step g (by rw [head, ob_f (by rw [e]; exact d10), ob_f (by rw [e]; exact d13), ob_f (by rw [e]; exact d14)]) (by rw [hn']; exact h56) ?_ (fun j _ => rfl)
        intro v hv
        by_cases q : v = w
        · subst q
          rw [h40 v (by omega), (opn_goo ho').2.2]
          unfold sta
          rw [hl, e]
          rfl
        · rw [h40 v (by omega), sta_miss (hd v hv q)]
      · have hn' := nwk_n (L := lgR f) (n := i) (by rw [e]; exact d20)
        have ho' := vent_o hV1.2 (by rw [e]; exact d20)
        rw [hw2] at ho'
        refine step g (by rw [head, ob_f (by rw [e]; exact d20), ob_f (by rw [e]; exact d23), ob_f (by rw [e]; exact d24)]) (by rw [hn']; exact h56) ?_ (fun j _ => rfl)
        intro v hv
        by_cases q : v = w
        · subst q
          rw [h40 v (by omega), (opn_goo ho').2.2]
          unfold sta
          rw [hl, e]
          rfl
        · rw [h40 v (by omega), sta_miss (hd v hv q)]
      · have hn' := nwk_n (L := lgR f) (n := i) (by rw [e]; exact d30)
        refine step (upd g (40 + w) 1) ?_ (by rw [up_n _ _ (by omega), hn']; exact h56) ?_ ?_
        · rw [head, ob_f (by rw [e]; exact d30), ob_t e]
          unfold f_Md_lose_104
          rw [ob_t e, k40, i_add, og_in (by omega) (by omega), i_cl (by omega), nx_s, kk1, i_add]
        · intro v hv
          by_cases q : v = w
          · subst q
            rw [up_s]
            unfold sta
            rw [hl, e]
            rfl
          · rw [up_n _ _ (by omega), h40 v (by omega), sta_miss (hd v hv q)]
        · intro j hj
          rw [up_n _ _ (by omega)]
      · have hn' := nwk_n (L := lgR f) (n := i) (by rw [e]; exact d40)
        refine step (upd g (40 + w) 2) ?_ (by rw [up_n _ _ (by omega), hn']; exact h56) ?_ ?_
        · rw [head, ob_f (by rw [e]; exact d40), ob_f (by rw [e]; exact d43), ob_t e]
          unfold f_Md_lose_104
          rw [ob_f (by rw [e]; exact d43), k40, i_add, og_in (by omega) (by omega), i_cl (by omega), nx_s, kk1, i_add]
        · intro v hv
          by_cases q : v = w
          · subst q
            rw [up_s]
            unfold sta
            rw [hl, e]
            rfl
          · rw [up_n _ _ (by omega), h40 v (by omega), sta_miss (hd v hv q)]
        · intro j hj
          rw [up_n _ _ (by omega)]
  have e1 : upd (upd f 65 (f 65 + nI (n - m))) 57 (nI m) 58 = nI s := by rw [up_n _ _ (by omega), up_n _ _ (by omega)]; exact hs
  have eH : f_Md_lose (nI m) f = f_Md_lose_45 FU (nI m) (nI (0 + 1)) (upd (upd (upd (upd f 65 (f 65 + nI (n - m))) 57 (nI m)) 58 (nI (min s m))) 56 (nI 0)) := by
    unfold f_Md_lose
    rw [k65, og_in (by omega) (by omega), k57, og_in (by omega) (by omega), og_in (by omega) (by omega), i_cl (by omega), i_cl (by omega), hn, i_sub hm, nx_s, og_in (by omega) (by omega), nx_s, k58, og_in (by omega) (by omega), i_cl (by omega), e1]
    by_cases q : m ≤ s
    · rw [ob_let q (by omega), og_in (by omega) (by omega), nx_s, k56, og_in (by omega) (by omega), i_cl (by omega), nx_s, Nat.min_eq_right q]
      rfl
    · rw [ob_lef (by omega) (by omega), og_in (by omega) (by omega), og_in (by omega) (by omega), nx_s, k56, og_in (by omega) (by omega), i_cl (by omega), nx_s, Nat.min_eq_left (by omega)]
      rfl
  obtain ⟨f', b1, b2, b3, b4⟩ := key m 0 FU (upd (upd (upd (upd f 65 (f 65 + nI (n - m))) 57 (nI m)) 58 (nI (min s m))) 56 (nI 0)) (by omega) (by unfold FU; omega) (by rw [up_s]; rfl) (fun w hw => by simp [nwk] at hw) (fun j hj => by rw [up_n _ _ (by omega), up_n _ _ (by omega), up_n _ _ (by omega), up_n _ _ (by omega)])
  refine ⟨f', eH.trans b1, ?_, b2, b3, ?_, ?_, fun j hj hj2 => ?_⟩
  · rw [b4 57 (by omega), up_n _ _ (by omega), up_n _ _ (by omega), up_s]
  · rw [b4 58 (by omega), up_n _ _ (by omega), up_s]
  · rw [b4 65 (by omega), up_n _ _ (by omega), up_n _ _ (by omega), up_n _ _ (by omega), up_s]
  · rw [b4 j (by omega), up_n _ _ (by omega), up_n _ _ (by omega), up_n _ _ (by omega), up_n _ _ hj2]
def zh (f : Nat → Int32) : Nat → (Nat → Int32)
  | 0 => f
  | i + 1 => upd (zh f i) (16 + i) 0
theorem zh_o (f : Nat → Int32) : ∀ i j, j < 16 ∨ 16 + i ≤ j → zh f i j = f j
  | 0, _, _ => rfl
  | i + 1, j, h => by
    show upd _ _ _ _ = _
    rw [up_n _ _ (by omega)]
    exact zh_o f i j (by omega)
theorem zh_z (f : Nat → Int32) : ∀ i p, p < i → zh f i (16 + p) = 0
  | 0, _, h => by omega
  | i + 1, p, h => by
    show upd _ _ _ _ = _
    by_cases e : p = i
    · subst e
      rw [up_s]
    · rw [up_n _ _ (by omega)]
      exact zh_z f i p (by omega)
theorem r_flood {f : Nat → Int32} {n s : Nat} (hn : f 57 = nI n) (hV : VL (lgR f) s) (h3 : n ≤ 300) (hs : f 58 = nI s) (hsn : s ≤ n) :
    ∃ f', f_Md_floodOn f = some (nI (n - s), f') ∧ f' 57 = nI s ∧ f' 56 = nI (nwk (lgR f) s) ∧ (∀ w, w < nwk (lgR f) s → f' (40 + w) = sta (lgR f) (nI w) s) ∧ f' 58 = nI s ∧ f' 65 = f 65 + nI (n - s) ∧ f' 59 = 1 ∧ f' 60 = 0 ∧ f' 63 = f 63 + 1 ∧ f' 64 = f 64 ∧ f' 66 = 1 ∧ (∀ p, p < 8 → f' (16 + p) = 0) ∧ ∀ j, j < 16 ∨ 67 ≤ j → f' j = f j := by
  have eL : ∀ i, lgR (zh f 8) i = lgR f i := by
    intro i
    unfold lgR
    simp (disch := omega) only [zh_o]
  have e57 : zh f 8 57 = nI n := (zh_o f 8 57 (by omega)).trans hn
  have e58 : zh f 8 58 = nI s := (zh_o f 8 58 (by omega)).trans hs
  obtain ⟨g, a1, a2, a3, a4, a5, a6, a7⟩ := r_lose (m := s) e57 (VL_cg s (fun i _ _ => (eL i).symm) hV) hsn h3 e58 hsn
  rw [Nat.min_self] at a5
  have key : ∀ k i N, i + k = 8 → k < N → f_Md_floodOn_12 N (nI (n - s)) (nI i) (zh f i) = some (nI (n - s), upd (upd (upd (upd g 59 1) 60 0) 63 (g 63 + 1)) 66 1) := by
    intro k
    induction k with
    | zero =>
      intro i N hi hN
      obtain ⟨N, rfl⟩ : ∃ q, N = q + 1 := ⟨N - 1, by omega⟩
      have : i = 8 := by omega
      subst this
      rw [e_Md_floodOn_12, k8, ob_let (by omega) (by omega), k58, og_in (by omega) (by omega), i_cl (by omega), e58, a1, oc_s, k59, og_in (by omega) (by omega), i_cl (by omega), nx_s, k60, og_in (by omega) (by omega), i_cl (by omega), nx_s, k63, og_in (by omega) (by omega), og_in (by omega) (by omega), i_cl (by omega), up_n _ _ (by omega), up_n _ _ (by omega), nx_s, k66, og_in (by omega) (by omega), i_cl (by omega), nx_s]
    | succ k ih =>
      intro i N hi hN
      obtain ⟨N, rfl⟩ : ∃ q, N = q + 1 := ⟨N - 1, by omega⟩
      rw [e_Md_floodOn_12, k8, ob_lef (by omega) (by omega), k16, i_add, og_in (by omega) (by omega), i_cl (by omega), nx_s, kk1, i_add]
      exact ih (i + 1) N (by omega) (by omega)
  refine ⟨upd (upd (upd (upd g 59 1) 60 0) 63 (g 63 + 1)) 66 1, ?_, ?_, ?_, ?_, ?_, ?_, ?_, ?_, ?_, ?_, ?_, ?_, ?_⟩
  · unfold f_Md_floodOn
    rw [k57, og_in (by omega) (by omega), k58, og_in (by omega) (by omega), i_cl (by omega), i_cl (by omega), hn, hs, i_sub hsn]
    exact key 8 0 FU (by omega) (by unfold FU; omega)
  · rw [up_n _ _ (by omega), up_n _ _ (by omega), up_n _ _ (by omega), up_n _ _ (by omega)]; exact a2
  · rw [up_n _ _ (by omega), up_n _ _ (by omega), up_n _ _ (by omega), up_n _ _ (by omega), a3, nwk_cg s (fun i _ _ => eL i)]
  · intro w hw
    have h16 := nwk_16 s hV
    rw [up_n _ _ (by omega), up_n _ _ (by omega), up_n _ _ (by omega), up_n _ _ (by omega), a4 w (by rw [nwk_cg s (fun i _ _ => eL i)]; exact hw)]
    unfold sta
    rw [lst_cg (nI w) s (fun i _ _ => eL i), eL]
  · rw [up_n _ _ (by omega), up_n _ _ (by omega), up_n _ _ (by omega), up_n _ _ (by omega)]; exact a5
  · rw [up_n _ _ (by omega), up_n _ _ (by omega), up_n _ _ (by omega), up_n _ _ (by omega), a6, zh_o f 8 65 (by omega)]
  · rw [up_n _ _ (by omega), up_n _ _ (by omega), up_n _ _ (by omega), up_s]
  · rw [up_n _ _ (by omega), up_n _ _ (by omega), up_s]
  · rw [up_n _ _ (by omega), up_s, a7 63 (by omega) (by omega), zh_o f 8 63 (by omega)]
  · rw [up_n _ _ (by omega), up_n _ _ (by omega), up_n _ _ (by omega), up_n _ _ (by omega), a7 64 (by omega) (by omega), zh_o f 8 64 (by omega)]
  · rw [up_s]
  · intro p hp
    rw [up_n _ _ (by omega), up_n _ _ (by omega), up_n _ _ (by omega), up_n _ _ (by omega), a7 _ (by omega) (by omega), zh_z f 8 p hp]
  · intro j hj
    rw [up_n _ _ (by omega), up_n _ _ (by omega), up_n _ _ (by omega), up_n _ _ (by omega), a7 _ (by omega) (by omega), zh_o f 8 j (by omega)]
theorem hnd_0 (a b c d : Nat → Int32) (p : Nat) : ¬ hnd (a, b, c, d, (0 : Int32)) p := by
  intro h
  have : bt 0 p = true := h
  rw [b_0] at this
  cases this
theorem s_flood {v : V_St} {f : Nat → Int32} {n s : Nat} (I : INV v n s) (R : REL v f n s) : ∃ v' f', f_St_takeFlood v = some (nI (n - s), v') ∧ f_Md_floodOn f = some (nI (n - s), f') ∧ INV v' s s ∧ REL v' f' s s ∧ mdg v' = 1 ∧ bgn v' = 0 ∧ n - s ≤ 300 := by
  obtain ⟨⟨w1, w2, w3⟩, i2, i3, i4, i5, i6, i7, i8, i9⟩ := I
  obtain ⟨⟨l1, l2, l3, l4⟩, r2, r3, r4, r5, r6, r7, r8, r9, r10⟩ := R
  have h300 := VL_300 w2
  have h16 := nwk_16 n w2
  have e1 : n - (n - s) = s := by omega
  have hVs := VL_le w2 i3
  have hg : ∀ i, 1 ≤ i → i ≤ s → lgD v.2.1 i = lgR f i := fun i a b => l1 i a (by omega)
  obtain ⟨k', t1, t2⟩ := c_lose (v := ((v.1.1, v.1.2.1, v.1.2.2.1, v.1.2.2.2.1, (0 : Int32)), v.2.1, v.2.2.1, (1 : Int32), (0 : Int32), (1 : Int32), (flo v + (1 : Int32)), stp v, los v)) (m := n - s) ⟨w1, w2, w3⟩ i2 i3 (by omega)
  rw [e1, Nat.min_self] at t1
  rw [e1] at t2
  obtain ⟨f', a1, a2, a3, a4, a5, a6, a7, a8, a9, a10, a11, a12, a13⟩ := r_flood l2 (VL_cg s hg hVs) h300 r3 i3
  refine ⟨((v.1.1, v.1.2.1, v.1.2.2.1, v.1.2.2.2.1, (0 : Int32)), (v.2.1.1, v.2.1.2.1, v.2.1.2.2.1, v.2.1.2.2.2.1, v.2.1.2.2.2.2.1, v.2.1.2.2.2.2.2.1, v.2.1.2.2.2.2.2.2.1, nI s, nI s), k', (1 : Int32), (0 : Int32), (1 : Int32), flo v + (1 : Int32), stp v, los v + nI (n - s)), f', ?_, a1, ?_, ?_, ?_, ?_, by omega⟩
  · unfold f_St_takeFlood f_Pg_leaveHand
    have hn : v.2.1.2.2.2.2.2.2.2.1 = nI n := w1
    have hs : v.2.1.2.2.2.2.2.2.2.2 = nI s := i2
    rw [oc_s, hn, hs, i_sub i3, t1, oc_s]
  · refine ⟨⟨rfl, hVs, t2⟩, rfl, Nat.le_refl _, fun p hp => ?_, Or.inr rfl, Or.inl rfl, fun q => absurd q d10, fun _ _ => ⟨rfl, rfl, fun p hp => hnd_0 _ _ _ _ p⟩, fun _ => ⟨1, rfl, by omega, by omega⟩⟩
    obtain ⟨x, y, z⟩ := i4 p hp
    exact ⟨x, y, fun q => absurd q (hnd_0 _ _ _ _ p)⟩
  · refine ⟨⟨fun i a b => ?_, a2, ?_, fun w hw => ?_⟩, fun p hp => ?_, a5, a7, a8, ?_, ?_, ?_, fun _ => ⟨fun _ => rfl, fun _ => a11⟩, fun _ q => absurd q d01⟩
    · have : lgR f' i = lgR f i := by
        unfold lgR
        simp (disch := omega) only [a13]
      rw [this]
      exact hg i a b
    · rw [a3, ← nwk_cg s hg]
      rfl
    · have hw' : w < nwk (lgD v.2.1) s := hw
      rw [a4 w (by rw [← nwk_cg s hg]; exact hw')]
      unfold sta
      have e3 := wk_has s hVs w hw'
      rw [← lst_cg (nI w) s hg, ← hg _ e3 (lst_le _ _ _)]
      rfl
    · obtain ⟨x, y, -, -⟩ := r2 p hp
      rw [a13 p (by omega), a13 (8 + p) (by omega)]
      exact ⟨x, y, fun q => absurd q (hnd_0 _ _ _ _ p), fun _ => a12 p hp⟩
    · rw [a9, r6]
    · rw [a10, r7]
    · rw [a6, r8]
  · rfl
  · rfl

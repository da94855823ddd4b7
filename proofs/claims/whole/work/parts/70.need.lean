/-! ===== PURE 21: the first entry that is needed ===== -/
theorem lst_shut {L : Nat → E7} {x : Int32} {j : Nat} : ∀ n, VL L n → 1 ≤ j → j ≤ n → (L j).2.1 = x → ((L j).1 = 3 ∨ (L j).1 = 4) → lst L x n = j
  | 0, _, h1, h2, _, _ => by omega
  | n + 1, hV, h1, h2, hx, hk => by
    by_cases e : j = n + 1
    · subst e
      exact lst_hit hx
    · have ih := lst_shut n hV.1 h1 (by omega) hx hk
      by_cases q : (L (n + 1)).2.1 = x
      · by_cases k0 : (L (n + 1)).1 = 0
        · have hz : lst L x n = 0 := by rw [← q, (vent_0 hV.2 k0).1]; exact wk_new hV.1
          omega
        · have ho := vent_o hV.2 k0
          rw [q] at ho
          obtain ⟨-, o1, o2⟩ := ho
          rw [ih] at o1 o2
          exact absurd hk (fun z => z.elim o1 o2)
      · rw [lst_miss q]
        exact ih
theorem ends_iff {L : Nat → E7} {n s : Nat} {x : Int32} (hV : VL L n) (hs : s ≤ n) (h1 : 1 ≤ lst L x n) : (∃ j, 1 ≤ j ∧ j ≤ s ∧ (L j).2.1 = x ∧ ((L j).1 = 3 ∨ (L j).1 = 4)) ↔ (¬ opn L x n ∧ lst L x n ≤ s) := by
  constructor
  · rintro ⟨j, a, b, c, d⟩
    have e := lst_shut n hV a (by omega) c d
    refine ⟨fun o => ?_, by omega⟩
    obtain ⟨-, o1, o2⟩ := o
    rw [e] at o1 o2
    exact d.elim o1 o2
  · rintro ⟨a, b⟩
    exact ⟨lst L x n, h1, b, lst_of L x n h1, shut hV h1 a⟩
def need (g : V_Pg) (L : Nat → E7) (n s i : Nat) : Prop := (isCh (L i) ∧ g.2.1 (L i).2.2.2.1.toNatClampNeg < nI i) ∨ ((L i).1 = 0 ∧ ¬ (¬ opn L (L i).2.1 n ∧ lst L (L i).2.1 n ≤ s))
theorem c_needed {v : V_St} {n s i : Nat} (I : INV v n s) (h1 : 1 ≤ i) (h2 : i ≤ n) : (need v.1 (lgD v.2.1) n s i → f_St_isNeeded (nI i) v = some 1) ∧ (¬ need v.1 (lgD v.2.1) n s i → f_St_isNeeded (nI i) v = some 0) := by
  obtain ⟨⟨w1, w2, w3⟩, i2, i3, i4, -⟩ := I
  have h300 := VL_300 w2
  have h16 := nwk_16 n w2
  have hs' : v.2.1.2.2.2.2.2.2.2.2 = nI s := i2
  have ek : v.2.1.1 i = (lgD v.2.1 i).1 := rfl
  have ew : v.2.1.2.1 i = (lgD v.2.1 i).2.1 := rfl
  have ep : v.2.1.2.2.2.1 i = (lgD v.2.1 i).2.2.2.1 := rfl
  have hd : f_St_isNeeded (nI i) v = oc (f_Fd_isChange (lgD v.2.1 i).1) (fun q_10 => ob (q_10 = 0) (ob ((lgD v.2.1 i).1 = 0) (oc (f_St_isEndSaved (lgD v.2.1 i).2.1 v) (fun q_54 => ob (q_54 = 0) (some (1 : Int32)) (some (0 : Int32)))) (some (0 : Int32))) (oc (f_Pg_markOnShelf (lgD v.2.1 i).2.2.2.1 v.1) (fun q_29 => ob (nI i ≤ q_29) (some (0 : Int32)) (some (1 : Int32))))) := by
    unfold f_St_isNeeded
    rw [c_kind w1 h300 h1 h2, oc_s, c_work w1 h300 h1 h2, oc_s, c_page w1 h300 h1 h2, oc_s, ek, ew, ep]
  rw [hd]
  by_cases q : isCh (lgD v.2.1 i)
  · obtain ⟨p, hp, hpg, -⟩ := ch_page w2 h1 h2 q
    obtain ⟨⟨k, k1, k2⟩, -⟩ := i4 p hp
    have k00 : ¬ (lgD v.2.1 i).1 = 0 := by
      rcases q with q | q <;> rw [q] <;> decide
    rw [c_isCh.1 q, oc_s, ob_f d10, hpg, c_marS hp, oc_s, k2]
    unfold need
    rw [hpg, i_cl (by omega), k2]
    by_cases z : i ≤ k
    · rw [ob_let z (by omega)]
      exact ⟨fun h => h.elim (fun y => absurd y.2 (nI_nlt z (by omega))) (fun y => absurd y.1 k00), fun _ => rfl⟩
    · rw [ob_lef (by omega) (by omega)]
      exact ⟨fun _ => rfl, fun h => absurd (Or.inl ⟨q, nI_lt (by omega) (by omega)⟩) h⟩
  · rw [c_isCh.2 q, oc_s, ob_rfl]
    by_cases k00 : (lgD v.2.1 i).1 = 0
    · obtain ⟨w, hw, hx⟩ := wk_of n w2 i h1 h2
      have hl := wk_has n w2 w hw
      have hle := lst_le (lgD v.2.1) (nI w) n
      have eE : f_St_isEndSaved (nI w) v = ob (¬ opn (lgD v.2.1) (nI w) n ∧ lst (lgD v.2.1) (nI w) n ≤ s) (some 1) (some 0) := by
        unfold f_St_isEndSaved
        by_cases o : opn (lgD v.2.1) (nI w) n
        · rw [c_wopen w3 w2 hw o, oc_s, ob_f d10, ob_f (fun z => z.1 o)]
        · rw [c_wopenN w3 w2 hw o, oc_s, ob_rfl, c_wlast w3 w2 (by omega), oc_s, hs']
          by_cases z : lst (lgD v.2.1) (nI w) n ≤ s
          · rw [ob_ltf z (by omega), ob_t ⟨o, z⟩]
          · rw [ob_ltt (by omega) (by omega), ob_f (fun y => z y.2)]
      rw [ob_t k00, hx, eE]
      unfold need
      rw [hx]
      by_cases z : ¬ opn (lgD v.2.1) (nI w) n ∧ lst (lgD v.2.1) (nI w) n ≤ s
      · rw [ob_t z, oc_s, ob_f d10]
        exact ⟨fun h => h.elim (fun y => absurd y.1 q) (fun y => absurd z y.2), fun _ => rfl⟩
      · rw [ob_f z, oc_s, ob_rfl]
        exact ⟨fun _ => rfl, fun h => absurd (Or.inr ⟨k00, z⟩) h⟩
    · rw [ob_f k00]
      exact ⟨fun h => h.elim (fun y => absurd y.1 q) (fun y => absurd y.1 k00), fun _ => rfl⟩
theorem c_lowest {v : V_St} {n s : Nat} (I : INV v n s) : f_St_lowestNeeded v = some (fw (need v.1 (lgD v.2.1) n s) 1 s) := by
  have h300 := VL_300 I.1.2.1
  have hsn : s ≤ n := I.2.2.1
  have hs' : v.2.1.2.2.2.2.2.2.2.2 = nI s := I.2.1
  have key : ∀ k i N, i + k = s + 1 → k < N → 1 ≤ i → f_St_lowestNeeded_2 N (nI i) v = some (fw (need v.1 (lgD v.2.1) n s) i k) := by
    intro k
    induction k with
    | zero =>
      intro i N hi hN h1
      obtain ⟨N, rfl⟩ : ∃ q, N = q + 1 := ⟨N - 1, by omega⟩
      rw [e_St_lowestNeeded_2, hs', ob_ltt (by omega) (by omega)]
      rfl
    | succ k ih =>
      intro i N hi hN h1
      obtain ⟨N, rfl⟩ : ∃ q, N = q + 1 := ⟨N - 1, by omega⟩
      obtain ⟨c1, c2⟩ := c_needed I h1 (show i ≤ n by omega)
      rw [e_St_lowestNeeded_2, hs', ob_ltf (by omega) (by omega)]
      unfold fw
      by_cases q : need v.1 (lgD v.2.1) n s i
      · rw [c1 q, oc_s, ob_f d10, ob_t q]
      · rw [c2 q, oc_s, ob_rfl, ob_f q, kk1, i_add]
        exact ih (i + 1) N (by omega) (by omega) (by omega)
  unfold f_St_lowestNeeded
  exact key s 1 FU (by omega) (by unfold FU; omega) (by omega)
theorem r_ends {f : Nat → Int32} {n s : Nat} (h58 : f 58 = nI s) (hs : s ≤ n) (h3 : n ≤ 300) {M : V_Md} (hM : M.1 = f) (x : Int32) : ((∃ j, 1 ≤ j ∧ j ≤ s ∧ (lgR f j).2.1 = x ∧ ((lgR f j).1 = 3 ∨ (lgR f j).1 = 4)) → f_Md_endsSaved x M = some 1) ∧ (¬ (∃ j, 1 ≤ j ∧ j ≤ s ∧ (lgR f j).2.1 = x ∧ ((lgR f j).1 = 3 ∨ (lgR f j).1 = 4)) → f_Md_endsSaved x M = some 0) := by
  have key : ∀ k i N, i + k = s + 1 → k < N → 1 ≤ i → ((∃ j, i ≤ j ∧ j ≤ s ∧ (lgR f j).2.1 = x ∧ ((lgR f j).1 = 3 ∨ (lgR f j).1 = 4)) → f_Md_endsSaved_2 N x (nI i) M = some 1) ∧ (¬ (∃ j, i ≤ j ∧ j ≤ s ∧ (lgR f j).2.1 = x ∧ ((lgR f j).1 = 3 ∨ (lgR f j).1 = 4)) → f_Md_endsSaved_2 N x (nI i) M = some 0) := by
    intro k
    induction k with
    | zero =>
      intro i N hi hN h1
      obtain ⟨N, rfl⟩ : ∃ q, N = q + 1 := ⟨N - 1, by omega⟩
      refine ⟨fun ⟨j, a, b, _⟩ => by omega, fun _ => ?_⟩
      rw [e_Md_endsSaved_2, k58, og_in (by omega) (by omega), i_cl (by omega), hM, h58, ob_ltt (by omega) (by omega)]
    | succ k ih =>
      intro i N hi hN h1
      obtain ⟨N, rfl⟩ : ∃ q, N = q + 1 := ⟨N - 1, by omega⟩
      obtain ⟨j1, j2⟩ := ih (i + 1) N (by omega) (by omega) (by omega)
      have e0 : nI (67 + 7 * (i - 1)) + 0 = nI (67 + 7 * (i - 1) + 0) := by rw [k0, i_add]
      have e1 : nI (67 + 7 * (i - 1)) + 1 = nI (67 + 7 * (i - 1) + 1) := by rw [kk1, i_add]
      have e2 : nI i + 1 = nI (i + 1) := by rw [kk1, i_add]
      have x0 : f (67 + 7 * (i - 1) + 0) = (lgR f i).1 := rfl
      have x1 : f (67 + 7 * (i - 1) + 1) = (lgR f i).2.1 := rfl
      have hd : f_Md_endsSaved_2 (N + 1) x (nI i) M = ob ((lgR f i).2.1 = x) (ob ((lgR f i).1 = 3) (some 1) (ob ((lgR f i).1 = 4) (some 1) (f_Md_endsSaved_2 N x (nI (i + 1)) M))) (f_Md_endsSaved_2 N x (nI (i + 1)) M) := by
        rw [e_Md_endsSaved_2, k58, og_in (by omega) (by omega), i_cl (by omega), hM, h58, ob_ltf (by omega) (by omega), r_at h1, oc_s, e1, og_in (by omega) (by omega), i_cl (by omega), x1, oc_s, e0, og_in (by omega) (by omega), i_cl (by omega), x0, oc_s, e0, og_in (by omega) (by omega), i_cl (by omega), x0, e2]
      rw [hd]
      by_cases q : (lgR f i).2.1 = x ∧ ((lgR f i).1 = 3 ∨ (lgR f i).1 = 4)
      · refine ⟨fun _ => ?_, fun h => absurd ⟨i, Nat.le_refl _, by omega, q⟩ h⟩
        rw [ob_t q.1]
        by_cases q3 : (lgR f i).1 = 3
        · rw [ob_t q3]
        · rw [ob_f q3, ob_t (q.2.resolve_left q3)]
      · have hr : ob ((lgR f i).2.1 = x) (ob ((lgR f i).1 = 3) (some 1) (ob ((lgR f i).1 = 4) (some 1) (f_Md_endsSaved_2 N x (nI (i + 1)) M))) (f_Md_endsSaved_2 N x (nI (i + 1)) M) = f_Md_endsSaved_2 N x (nI (i + 1)) M := by
          by_cases z : (lgR f i).2.1 = x
          · rw [ob_t z, ob_f (fun y => q ⟨z, Or.inl y⟩), ob_f (fun y => q ⟨z, Or.inr y⟩)]
          · rw [ob_f z]
        rw [hr]
        refine ⟨fun ⟨j, a, b, c⟩ => j1 ⟨j, ?_, b, c⟩, fun h => j2 (fun ⟨j, a, b, c⟩ => h ⟨j, by omega, b, c⟩)⟩
        by_cases y : j = i
        · subst y
          exact absurd c q
        · omega
  unfold f_Md_endsSaved
  exact key s 1 FU (by omega) (by unfold FU; omega) (by omega)
theorem r_first {v : V_St} {f : Nat → Int32} {n s : Nat} (I : INV v n s) (R : REL v f n s) {M : V_Md} (hM : M.1 = f) : f_Md_firstNeeded M = some (fw (need v.1 (lgD v.2.1) n s) 1 s) := by
  obtain ⟨⟨w1, w2, w3⟩, i2, i3, i4, -⟩ := I
  obtain ⟨hRL, r2, r3, -⟩ := R
  obtain ⟨l1, l2, l3, l4⟩ := id hRL
  have h300 := VL_300 w2
  have h16 := nwk_16 n w2
  have key : ∀ k i N, i + k = s + 1 → k < N → 1 ≤ i → f_Md_firstNeeded_2 N (nI i) M = some (fw (need v.1 (lgD v.2.1) n s) i k) := by
    intro k
    induction k with
    | zero =>
      intro i N hi hN h1
      obtain ⟨N, rfl⟩ : ∃ q, N = q + 1 := ⟨N - 1, by omega⟩
      rw [e_Md_firstNeeded_2, k58, og_in (by omega) (by omega), i_cl (by omega), hM, r3, ob_ltt (by omega) (by omega)]
      rfl
    | succ k ih =>
      intro i N hi hN h1
      obtain ⟨N, rfl⟩ : ∃ q, N = q + 1 := ⟨N - 1, by omega⟩
      have el := l1 i h1 (by omega)
      have e0 : nI (67 + 7 * (i - 1)) + 0 = nI (67 + 7 * (i - 1) + 0) := by rw [k0, i_add]
      have e1 : nI (67 + 7 * (i - 1)) + 1 = nI (67 + 7 * (i - 1) + 1) := by rw [kk1, i_add]
      have e2 : nI i + 1 = nI (i + 1) := by rw [kk1, i_add]
      have x0 : f (67 + 7 * (i - 1) + 0) = (lgD v.2.1 i).1 := by rw [el]; rfl
      have x1 : f (67 + 7 * (i - 1) + 1) = (lgD v.2.1 i).2.1 := by rw [el]; rfl
      have x3 : f (67 + 7 * (i - 1) + 3) = (lgD v.2.1 i).2.2.2.1 := by rw [el]; rfl
      have ih' := ih (i + 1) N (by omega) (by omega) (by omega)
      have hd : f_Md_firstNeeded_2 (N + 1) (nI i) M = ob ((lgD v.2.1 i).1 = 1) (f_Md_firstNeeded_35 (f_Md_firstNeeded_2 N) (nI i) (lgD v.2.1 i).1 M) (ob ((lgD v.2.1 i).1 = 2) (f_Md_firstNeeded_35 (f_Md_firstNeeded_2 N) (nI i) (lgD v.2.1 i).1 M) (f_Md_firstNeeded_63 (f_Md_firstNeeded_2 N) (nI i) (lgD v.2.1 i).1 0 M)) := by
        rw [e_Md_firstNeeded_2, k58, og_in (by omega) (by omega), i_cl (by omega), hM, r3, ob_ltf (by omega) (by omega), r_at h1, oc_s, e0, og_in (by omega) (by omega), i_cl (by omega), x0]
      have h63 : ∀ s0 : Int32, f_Md_firstNeeded_63 (f_Md_firstNeeded_2 N) (nI i) (lgD v.2.1 i).1 s0 M = ob (s0 = 0) (ob ((lgD v.2.1 i).1 = 0) (oc (f_Md_endsSaved (lgD v.2.1 i).2.1 M) (fun q_84 => ob (q_84 = 0) (some (nI i)) (f_Md_firstNeeded_2 N (nI (i + 1)) M))) (f_Md_firstNeeded_2 N (nI (i + 1)) M)) (some (nI i)) := by
        intro s0
        unfold f_Md_firstNeeded_63
        rw [r_at h1, oc_s, e1, og_in (by omega) (by omega), i_cl (by omega), hM, x1, e2]
      rw [hd]
      unfold fw
      by_cases q : isCh (lgD v.2.1 i)
      · obtain ⟨p, hp, hpg, -⟩ := ch_page w2 h1 (show i ≤ n by omega) q
        obtain ⟨⟨m, k1, k2⟩, -⟩ := i4 p hp
        obtain ⟨-, pb, -⟩ := r2 p hp
        have k00 : ¬ (lgD v.2.1 i).1 = 0 := by
          rcases q with q | q <;> rw [q] <;> decide
        have h35 : f_Md_firstNeeded_35 (f_Md_firstNeeded_2 N) (nI i) (lgD v.2.1 i).1 M = ob (nI i ≤ nI m) (f_Md_firstNeeded_2 N (nI (i + 1)) M) (some (nI i)) := by
          have e3 : nI (67 + 7 * (i - 1)) + 3 = nI (67 + 7 * (i - 1) + 3) := by rw [k3, i_add]
          have e8 : (8 : Int32) + nI p = nI (8 + p) := by rw [k8, i_add]
          unfold f_Md_firstNeeded_35
          rw [r_at h1, oc_s, e3, og_in (by omega) (by omega), i_cl (by omega), hM, x3, hpg, e8, og_in (by omega) (by omega), i_cl (by omega), pb, k2, h63, h63, ob_rfl, ob_f d10, ob_f k00]
        have hh : ob ((lgD v.2.1 i).1 = 1) (f_Md_firstNeeded_35 (f_Md_firstNeeded_2 N) (nI i) (lgD v.2.1 i).1 M) (ob ((lgD v.2.1 i).1 = 2) (f_Md_firstNeeded_35 (f_Md_firstNeeded_2 N) (nI i) (lgD v.2.1 i).1 M) (f_Md_firstNeeded_63 (f_Md_firstNeeded_2 N) (nI i) (lgD v.2.1 i).1 0 M)) = f_Md_firstNeeded_35 (f_Md_firstNeeded_2 N) (nI i) (lgD v.2.1 i).1 M := by
          by_cases z : (lgD v.2.1 i).1 = 1
          · rw [ob_t z]
          · rw [ob_f z, ob_t (q.resolve_left z)]
        rw [hh, h35]
        have hn : need v.1 (lgD v.2.1) n s i ↔ ¬ i ≤ m := by
          unfold need
          rw [hpg, i_cl (by omega), k2]
          constructor
          · intro h z
            exact h.elim (fun y => absurd y.2 (nI_nlt z (by omega))) (fun y => absurd y.1 k00)
          · intro z
            exact Or.inl ⟨q, nI_lt (by omega) (by omega)⟩
        by_cases z : i ≤ m
        · rw [ob_let z (by omega), ob_f (fun y => hn.mp y z)]
          exact ih'
        · rw [ob_lef (by omega) (by omega), ob_t (hn.mpr z)]
      · rw [ob_f (fun z => q (Or.inl z)), ob_f (fun z => q (Or.inr z)), h63, ob_rfl]
        by_cases k00 : (lgD v.2.1 i).1 = 0
        · obtain ⟨w, hw, hx⟩ := wk_of n w2 i h1 (show i ≤ n by omega)
          have hl := wk_has n w2 w hw
          obtain ⟨y1, y2⟩ := r_ends r3 i3 h300 hM (nI w)
          have hE := ends_iff (x := nI w) w2 i3 hl
          have hE2 : (∃ j, 1 ≤ j ∧ j ≤ s ∧ (lgR f j).2.1 = nI w ∧ ((lgR f j).1 = 3 ∨ (lgR f j).1 = 4)) ↔ (∃ j, 1 ≤ j ∧ j ≤ s ∧ (lgD v.2.1 j).2.1 = nI w ∧ ((lgD v.2.1 j).1 = 3 ∨ (lgD v.2.1 j).1 = 4)) := by
            constructor
            · rintro ⟨j, a, b, c⟩
              exact ⟨j, a, b, by rw [l1 j a (by omega)]; exact c⟩
            · rintro ⟨j, a, b, c⟩
              exact ⟨j, a, b, by rw [← l1 j a (by omega)]; exact c⟩
          rw [ob_t k00, hx]
          by_cases z : ¬ opn (lgD v.2.1) (nI w) n ∧ lst (lgD v.2.1) (nI w) n ≤ s
          · rw [y1 (hE2.mpr (hE.mpr z)), oc_s, ob_f d10, ob_f (show ¬ need v.1 (lgD v.2.1) n s i from fun h => h.elim (fun y => q y.1) (fun y => y.2 (by rw [hx]; exact z)))]
            exact ih'
          · rw [y2 (fun y => z (hE.mp (hE2.mp y))), oc_s, ob_rfl, ob_t (show need v.1 (lgD v.2.1) n s i from Or.inr ⟨k00, by rw [hx]; exact z⟩)]
        · rw [ob_f k00, ob_f (show ¬ need v.1 (lgD v.2.1) n s i from fun h => h.elim (fun y => q y.1) (fun y => k00 y.1))]
          exact ih'
  unfold f_Md_firstNeeded
  exact key s 1 FU (by omega) (by unfold FU; omega) (by omega)

/-! ===== PURE 14: mending ===== -/
abbrev setA (v : V_St) (j : Nat) : V_St := (v.1, v.2.1, v.2.2.1, v.2.2.2.1, v.2.2.2.2.1, nI j, v.2.2.2.2.2.2.1, v.2.2.2.2.2.2.2.1, v.2.2.2.2.2.2.2.2)
theorem setA_id {v : V_St} {a : Nat} (h : agn v = nI a) : setA v a = v := by
  unfold setA
  rw [← h]
def fl (s j : Nat) : Int32 := if j ≤ s then 1 else 0
def FND (L : Nat → E7) (s a j : Nat) : Prop := a ≤ j ∧ j ≤ s + 1 ∧ (∀ i, a ≤ i → i < j → ¬ isCh (L i)) ∧ (j ≤ s → isCh (L j))
theorem c_isCh {k : Int32} : (k = 1 ∨ k = 2 → f_Fd_isChange k = some 1) ∧ (¬ (k = 1 ∨ k = 2) → f_Fd_isChange k = some 0) := by
  constructor
  · intro h
    unfold f_Fd_isChange
    by_cases q : k = 1
    · rw [ob_t q]
    · rw [ob_f q, ob_t (h.resolve_left q)]
  · intro h
    unfold f_Fd_isChange
    rw [ob_f (fun q => h (Or.inl q)), ob_f (fun q => h (Or.inr q))]
theorem c_find {v : V_St} {n s a : Nat} (h : WFL v n) (hs : dsv v.2.1 = nI s) (hsn : s ≤ n) (ha : agn v = nI a) (h1 : 1 ≤ a) (h2 : a ≤ s + 1) : ∃ j, FND (lgD v.2.1) s a j ∧ f_St_findAgain v = some (fl s j, setA v j) := by
  obtain ⟨w1, w2, w3⟩ := h
  have h300 := VL_300 w2
  have hs' : v.2.1.2.2.2.2.2.2.2.2 = nI s := hs
  have key : ∀ k a N, a + k = s + 1 → k < N → 1 ≤ a → ∃ j, FND (lgD v.2.1) s a j ∧ f_St_findAgain_0 N (setA v a) = some (fl s j, setA v j) := by
    intro k
    induction k with
    | zero =>
      intro a N hk hN h1
      obtain ⟨N, rfl⟩ : ∃ q, N = q + 1 := ⟨N - 1, by omega⟩
      refine ⟨a, ⟨Nat.le_refl _, by omega, fun i x y => by omega, fun q => by omega⟩, ?_⟩
      rw [e_St_findAgain_0]
      unfold fl
      rw [if_neg (by omega)]
      show ob (v.2.1.2.2.2.2.2.2.2.2 < nI a) (ob (v.2.1.2.2.2.2.2.2.2.2 < nI a) _ _) _ = _
      rw [hs', ob_ltt (by omega) (by omega), ob_ltt (by omega) (by omega)]
    | succ k ih =>
      intro a N hk hN h1
      obtain ⟨N, rfl⟩ : ∃ q, N = q + 1 := ⟨N - 1, by omega⟩
      have eh : f_St_findAgain_0 (N + 1) (setA v a) = oc (f_Fd_isChange (lgD v.2.1 a).1) (fun q_25 => ob (q_25 = 0) (f_St_findAgain_0 N (setA v (a + 1))) (some (1, setA v a))) := by
        rw [e_St_findAgain_0]
        show ob (v.2.1.2.2.2.2.2.2.2.2 < nI a) _ (oc (f_Dy_kindOf (nI a) v.2.1) (fun q_22 => oc (f_Fd_isChange q_22) (fun q_25 => ob (q_25 = 0) (f_St_findAgain_0 N (v.1, v.2.1, v.2.2.1, v.2.2.2.1, v.2.2.2.2.1, nI a + 1, v.2.2.2.2.2.2.1, v.2.2.2.2.2.2.2.1, v.2.2.2.2.2.2.2.2)) (ob (v.2.1.2.2.2.2.2.2.2.2 < nI a) _ (some (1, setA v a)))))) = _
        rw [hs', ob_ltf (by omega) (by omega), c_kind w1 h300 h1 (by omega), oc_s, ob_ltf (by omega) (by omega), kk1, i_add]
        rfl
      by_cases q : isCh (lgD v.2.1 a)
      · refine ⟨a, ⟨Nat.le_refl _, by omega, fun i x y => by omega, fun _ => q⟩, ?_⟩
        rw [eh, c_isCh.1 q, oc_s, ob_not d10]
        unfold fl
        rw [if_pos (by omega)]
      · obtain ⟨j, ⟨j1, j2, j3, j4⟩, j5⟩ := ih (a + 1) N (by omega) (by omega) (by omega)
        refine ⟨j, ⟨by omega, j2, fun i x y => ?_, j4⟩, ?_⟩
        · by_cases e : i = a
          · rw [e]; exact q
          · exact j3 i (by omega) y
        · rw [eh, c_isCh.2 q, oc_s, ob_rfl]
          exact j5
  obtain ⟨j, j1, j2⟩ := key (s + 1 - a) a FU (by omega) (by unfold FU; omega) h1
  refine ⟨j, j1, ?_⟩
  unfold f_St_findAgain
  rw [setA_id ha] at j2
  exact j2
theorem r_next {L : Nat → E7} {f : Nat → Int32} {n s d j : Nat} (hL : ∀ i, 1 ≤ i → i ≤ n → L i = lgR f i) (h300 : n ≤ 300) (h61 : f 61 = nI s) (h62 : f 62 = nI d) (hsn : s ≤ n) (hd : d < j) (hj : j ≤ s + 1) (hn : ∀ i, d < i → i < j → ¬ isCh (L i)) (hc : j ≤ s → isCh (L j)) : f_Md_nextAgain f = some (if j ≤ s then nI j else 0) := by
  have key : ∀ k i N, i + k = j → k < N → d < i → f_Md_nextAgain_7 N (nI i) f = some (if j ≤ s then nI j else 0) := by
    intro k
    induction k with
    | zero =>
      intro i N hi hN hdi
      obtain ⟨N, rfl⟩ : ∃ q, N = q + 1 := ⟨N - 1, by omega⟩
      have : i = j := by omega
      subst this
      rw [e_Md_nextAgain_7, k61, og_in (by omega) (by omega), i_cl (by omega), h61]
      by_cases q : i ≤ s
      · have hci := hc q
        rw [ob_ltf (by omega) (by omega), r_at (by omega), oc_s, k0, i_add, og_in (by omega) (by omega), i_cl (by omega), if_pos q]
        have e : f (67 + 7 * (i - 1) + 0) = (L i).1 := by rw [hL i (by omega) (by omega)]; rfl
        rw [e]
        by_cases q1 : (L i).1 = 1
        · rw [ob_t q1]
        · rw [ob_f q1, oc_s, i_add, og_in (by omega) (by omega), i_cl (by omega), e, ob_t (hci.resolve_left q1)]
      · rw [ob_ltt (by omega) (by omega), if_neg q]
    | succ k ih =>
      intro i N hi hN hdi
      obtain ⟨N, rfl⟩ : ∃ q, N = q + 1 := ⟨N - 1, by omega⟩
      have hci := hn i hdi (by omega)
      have e : f (67 + 7 * (i - 1) + 0) = (L i).1 := by rw [hL i (by omega) (by omega)]; rfl
      have ih' := ih (i + 1) N (by omega) (by omega) (by omega)
      rw [e_Md_nextAgain_7, k61, og_in (by omega) (by omega), i_cl (by omega), h61, ob_ltf (by omega) (by omega), r_at (by omega), oc_s]
      have e3 : nI (67 + 7 * (i - 1)) + 0 = nI (67 + 7 * (i - 1) + 0) := by rw [k0, i_add]
      rw [e3, og_in (by omega) (by omega), i_cl (by omega), e, ob_f (fun q => hci (Or.inl q)), oc_s, e3, og_in (by omega) (by omega), i_cl (by omega), e, ob_f (fun q => hci (Or.inr q))]
      have e4 : nI i + 1 = nI (i + 1) := by rw [kk1, i_add]
      rw [e4]
      exact ih'
  unfold f_Md_nextAgain
  rw [k62, og_in (by omega) (by omega), i_cl (by omega), h62, kk1, i_add]
  exact key (j - (d + 1)) (d + 1) FU (by omega) (by unfold FU; omega) (by omega)
/-- the work to take back next: 0: none; b + 1: work b -/
noncomputable def nb (c : Nat → Prop) (g : Nat → Nat) : Nat → Nat → Nat → Nat
  | _, 0, b => b
  | i, k + 1, b => ob (c i) (ob (b = 0) (nb c g (i + 1) k (i + 1)) (ob (g i ≤ g (b - 1)) (nb c g (i + 1) k b) (nb c g (i + 1) k (i + 1)))) (nb c g (i + 1) k b)
theorem nb_ok {c : Nat → Prop} {g : Nat → Nat} : ∀ k i b, (b = 0 ∨ (c (b - 1) ∧ b ≤ i)) → (nb c g i k b = 0 ∧ b = 0 ∧ ∀ j, i ≤ j → j < i + k → ¬ c j) ∨ (1 ≤ nb c g i k b ∧ nb c g i k b ≤ i + k ∧ c (nb c g i k b - 1))
  | 0, i, b, h => by
    show (b = 0 ∧ b = 0 ∧ _) ∨ (1 ≤ b ∧ b ≤ i + 0 ∧ c (b - 1))
    rcases h with h | ⟨h1, h2⟩
    · exact Or.inl ⟨h, h, fun j x y => by omega⟩
    · by_cases q : b = 0
      · exact Or.inl ⟨q, q, fun j x y => by omega⟩
      · exact Or.inr ⟨by omega, by omega, h1⟩
  | k + 1, i, b, h => by
    have e1 : i + (k + 1) = i + 1 + k := by omega
    unfold nb
    by_cases q : c i
    · have hi : ∀ b', b' = i + 1 ∨ (¬ b = 0 ∧ b' = b) → (nb c g (i + 1) k b' = 0 ∧ b = 0 ∧ ∀ j, i ≤ j → j < i + (k + 1) → ¬ c j) ∨ (1 ≤ nb c g (i + 1) k b' ∧ nb c g (i + 1) k b' ≤ i + (k + 1) ∧ c (nb c g (i + 1) k b' - 1)) := by
        intro b' hb
        have h0 : b' = 0 ∨ (c (b' - 1) ∧ b' ≤ i + 1) := by
          rcases hb with hb | ⟨hb1, hb⟩
          · subst hb
            exact Or.inr ⟨by simpa using q, Nat.le_refl _⟩
          · subst hb
            rcases h with h | h
            · exact Or.inl h
            · exact Or.inr ⟨h.1, by omega⟩
        rcases nb_ok k (i + 1) b' h0 with ⟨_, x2, _⟩ | x
        · rcases hb with hb | ⟨hb1, hb⟩
          · omega
          · exact absurd (hb ▸ x2) hb1
        · rw [e1]
          exact Or.inr x
      rw [ob_t q]
      by_cases q2 : b = 0
      · rw [ob_t q2]
        exact hi _ (Or.inl rfl)
      · rw [ob_f q2]
        by_cases q3 : g i ≤ g (b - 1)
        · rw [ob_t q3]
          exact hi _ (Or.inr ⟨q2, rfl⟩)
        · rw [ob_f q3]
          exact hi _ (Or.inl rfl)
    · rw [ob_f q]
      have h0 : b = 0 ∨ (c (b - 1) ∧ b ≤ i + 1) := by
        rcases h with h | h
        · exact Or.inl h
        · exact Or.inr ⟨h.1, by omega⟩
      rcases nb_ok k (i + 1) b h0 with ⟨x1, x2, x3⟩ | x
      · refine Or.inl ⟨x1, x2, fun j y z => ?_⟩
        by_cases e : j = i
        · rw [e]; exact q
        · exact x3 j (by omega) (by omega)
      · rw [e1]
        exact Or.inr x
def enc : Nat → Int32
  | 0 => -6
  | b + 1 => nI b
noncomputable abbrev nbL (L : Nat → E7) (n : Nat) : Nat := nb (fun w => opn L (nI w) n) (fun w => gon L (nI w) n) 0 (nwk L n) 0
theorem c_nextB {L : Nat → E7} {n : Nat} {k : V_Wk} (hW : WKS L n k) (hV : VL L n) : f_Wk_nextToTakeBack k = some (enc (nbL L n)) := by
  have h16 := nwk_16 n hV
  have h300 := VL_300 hV
  have key : ∀ j i m b, i + j = nwk L n → j < m → (b = 0 ∨ (opn L (nI (b - 1)) n ∧ b ≤ i)) → f_Wk_nextToTakeBack_5 m (enc b) (nI i) k = some (enc (nb (fun w => opn L (nI w) n) (fun w => gon L (nI w) n) i j b)) := by
    intro j
    induction j with
    | zero =>
      intro i m b hi hm hb
      obtain ⟨m, rfl⟩ : ∃ q, m = q + 1 := ⟨m - 1, by omega⟩
      rw [e_Wk_nextToTakeBack_5, hW.1, ob_let (by omega) (by omega)]
      rfl
    | succ j ih =>
      intro i m b hi hm hb
      obtain ⟨m, rfl⟩ : ∃ q, m = q + 1 := ⟨m - 1, by omega⟩
      have hin : (nI i : Int32) + 1 = nI (i + 1) := by rw [kk1, i_add]
      rw [e_Wk_nextToTakeBack_5, hW.1, ob_lef (by omega) (by omega), hin]
      unfold nb
      by_cases q : opn L (nI i) n
      · have hgi := gon_ok n hV _ q
        have hgle : gon L (nI i) n ≤ n := Nat.le_trans hgi.2.1 (lst_le _ _ _)
        rw [c_wopen hW hV (by omega) q, oc_s, ob_not d10, c_wgoon hW hV (by omega), oc_s, (opn_goo q).1, ob_t q]
        have r1 := ih (i + 1) m (i + 1) (by omega) (by omega) (Or.inr ⟨by simpa using q, Nat.le_refl _⟩)
        by_cases q2 : b = 0
        · subst q2
          have e6 : f_Wk_goOnOf (enc 0) k = some 0 := c_wgoon6 k
          rw [e6, oc_s, k0, ob_lef (by omega) (by omega), ob_t rfl]
          exact r1
        · obtain ⟨o1, o2⟩ := hb.resolve_left q2
          obtain ⟨b', rfl⟩ : ∃ z, b = z + 1 := ⟨b - 1, by omega⟩
          have o1' : opn L (nI b') n := by simpa using o1
          have hgb := gon_ok n hV _ o1'
          have hgble : gon L (nI b') n ≤ n := Nat.le_trans hgb.2.1 (lst_le _ _ _)
          have e6 : f_Wk_goOnOf (enc (b' + 1)) k = some (nI (gon L (nI b') n)) := by
            show f_Wk_goOnOf (nI b') k = _
            rw [c_wgoon hW hV (by omega), (opn_goo o1').1]
          have r2 := ih (i + 1) m (b' + 1) (by omega) (by omega) (Or.inr ⟨by simpa using o1', by omega⟩)
          rw [e6, oc_s, ob_f q2]
          by_cases q3 : gon L (nI i) n ≤ gon L (nI b') n
          · rw [ob_let q3 (by omega), ob_t (show gon L (nI i) n ≤ gon L (nI (b' + 1 - 1)) n by simpa using q3)]
            exact r2
          · rw [ob_lef (by omega) (by omega), ob_f (show ¬ gon L (nI i) n ≤ gon L (nI (b' + 1 - 1)) n by simpa using q3)]
            exact r1
      · rw [c_wopenN hW hV (by omega) q, oc_s, ob_rfl, ob_f q]
        refine ih (i + 1) m b (by omega) (by omega) ?_
        rcases hb with hb | hb
        · exact Or.inl hb
        · exact Or.inr ⟨hb.1, by omega⟩
  unfold f_Wk_nextToTakeBack
  exact key _ 0 FU 0 (by omega) (by unfold FU; omega) (Or.inl rfl)
theorem r_nextB {L : Nat → E7} {n : Nat} {f : Nat → Int32} (hV : VL L n) (hR : RL L n f) : f_Md_nextBack f = some (enc (nbL L n)) := by
  have h16 := nwk_16 n hV
  have h300 := VL_300 hV
  obtain ⟨l1, l2, l3, l4⟩ := id hR
  have hW := RL_R hV hR
  have hgo : ∀ w, opn L (nI w) n → f_Md_goesOnWith (nI w) f = some (nI (gon L (nI w) n)) := fun w ho => by
    rw [r_goes hW.1 hW.2.1 ((opn_cg l1).mp ho), gon_cg l1 ho]
  have key : ∀ j i m b, i + j = nwk L n → j < m → (b = 0 ∨ (opn L (nI (b - 1)) n ∧ b ≤ i)) → f_Md_nextBack_5 m (enc b) (nI i) f = some (enc (nb (fun w => opn L (nI w) n) (fun w => gon L (nI w) n) i j b)) := by
    intro j
    induction j with
    | zero =>
      intro i m b hi hm hb
      obtain ⟨m, rfl⟩ : ∃ q, m = q + 1 := ⟨m - 1, by omega⟩
      rw [e_Md_nextBack_5, k56, og_in (by omega) (by omega), i_cl (by omega), l3, ob_let (by omega) (by omega)]
      rfl
    | succ j ih =>
      intro i m b hi hm hb
      obtain ⟨m, rfl⟩ : ∃ q, m = q + 1 := ⟨m - 1, by omega⟩
      have hin : (nI i : Int32) + 1 = nI (i + 1) := by rw [kk1, i_add]
      have hs := sta_0 (wk_has n hV i (by omega))
      rw [e_Md_nextBack_5, k56, og_in (by omega) (by omega), i_cl (by omega), l3, ob_lef (by omega) (by omega), hin, k40, i_add, og_in (by omega) (by omega), i_cl (by omega), l4 i (by omega)]
      unfold nb
      by_cases q : opn L (nI i) n
      · have hgi := gon_ok n hV _ q
        have hgle : gon L (nI i) n ≤ n := Nat.le_trans hgi.2.1 (lst_le _ _ _)
        rw [ob_t (hs.mpr q), ob_t q]
        have r1 := ih (i + 1) m (i + 1) (by omega) (by omega) (Or.inr ⟨by simpa using q, Nat.le_refl _⟩)
        by_cases q2 : b = 0
        · subst q2
          rw [ob_t (show enc 0 = (-6 : Int32) from rfl), ob_t rfl]
          exact r1
        · obtain ⟨o1, o2⟩ := hb.resolve_left q2
          obtain ⟨b', rfl⟩ : ∃ z, b = z + 1 := ⟨b - 1, by omega⟩
          have o1' : opn L (nI b') n := by simpa using o1
          have hgb := gon_ok n hV _ o1'
          have hgble : gon L (nI b') n ≤ n := Nat.le_trans hgb.2.1 (lst_le _ _ _)
          have r2 := ih (i + 1) m (b' + 1) (by omega) (by omega) (Or.inr ⟨by simpa using o1', by omega⟩)
          have e6 : f_Md_goesOnWith (enc (b' + 1)) f = some (nI (gon L (nI b') n)) := hgo b' o1'
          rw [ob_f (show ¬ enc (b' + 1) = (-6 : Int32) from m6_ne b' (by omega)), hgo i q, oc_s, e6, oc_s, ob_f q2]
          by_cases q3 : gon L (nI i) n ≤ gon L (nI b') n
          · rw [ob_let q3 (by omega), ob_t (show gon L (nI i) n ≤ gon L (nI (b' + 1 - 1)) n by simpa using q3)]
            exact r2
          · rw [ob_lef (by omega) (by omega), ob_f (show ¬ gon L (nI i) n ≤ gon L (nI (b' + 1 - 1)) n by simpa using q3)]
            exact r1
      · rw [ob_f (fun z => q (hs.mp z)), ob_f q]
        refine ih (i + 1) m b (by omega) (by omega) ?_
        rcases hb with hb | hb
        · exact Or.inl hb
        · exact Or.inr ⟨hb.1, by omega⟩
  unfold f_Md_nextBack
  exact key _ 0 FU 0 (by omega) (by unfold FU; omega) (Or.inl rfl)

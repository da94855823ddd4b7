/-! ===== PURE 23: history ===== -/
def hs (H : V_Hi) : Nat → V_St
  | 0 => H.1
  | 1 => H.2.1
  | 2 => H.2.2.1
  | 3 => H.2.2.2.1
  | 4 => H.2.2.2.2.1
  | 5 => H.2.2.2.2.2.1
  | _ => H.2.2.2.2.2.2.1
abbrev hiF (H : V_Hi) : Int32 := H.2.2.2.2.2.2.2.1
abbrev hiN (H : V_Hi) : Int32 := H.2.2.2.2.2.2.2.2
def stH (H : V_Hi) : Nat → V_St → V_Hi
  | 0, w => (w, H.2.1, H.2.2.1, H.2.2.2.1, H.2.2.2.2.1, H.2.2.2.2.2.1, H.2.2.2.2.2.2.1, H.2.2.2.2.2.2.2.1, H.2.2.2.2.2.2.2.2)
  | 1, w => (H.1, w, H.2.2.1, H.2.2.2.1, H.2.2.2.2.1, H.2.2.2.2.2.1, H.2.2.2.2.2.2.1, H.2.2.2.2.2.2.2.1, H.2.2.2.2.2.2.2.2)
  | 2, w => (H.1, H.2.1, w, H.2.2.2.1, H.2.2.2.2.1, H.2.2.2.2.2.1, H.2.2.2.2.2.2.1, H.2.2.2.2.2.2.2.1, H.2.2.2.2.2.2.2.2)
  | 3, w => (H.1, H.2.1, H.2.2.1, w, H.2.2.2.2.1, H.2.2.2.2.2.1, H.2.2.2.2.2.2.1, H.2.2.2.2.2.2.2.1, H.2.2.2.2.2.2.2.2)
  | 4, w => (H.1, H.2.1, H.2.2.1, H.2.2.2.1, w, H.2.2.2.2.2.1, H.2.2.2.2.2.2.1, H.2.2.2.2.2.2.2.1, H.2.2.2.2.2.2.2.2)
  | 5, w => (H.1, H.2.1, H.2.2.1, H.2.2.2.1, H.2.2.2.2.1, w, H.2.2.2.2.2.2.1, H.2.2.2.2.2.2.2.1, H.2.2.2.2.2.2.2.2)
  | _, w => (H.1, H.2.1, H.2.2.1, H.2.2.2.1, H.2.2.2.2.1, H.2.2.2.2.2.1, w, H.2.2.2.2.2.2.2.1, H.2.2.2.2.2.2.2.2)
theorem l7 {k : Nat} (h : k < 7) : k = 0 ∨ k = 1 ∨ k = 2 ∨ k = 3 ∨ k = 4 ∨ k = 5 ∨ k = 6 := by omega
theorem hs_st (H : V_Hi) (w : V_St) {k : Nat} (hk : k < 7) : hs (stH H k w) k = w ∧ (∀ j, j < 7 → j ≠ k → hs (stH H k w) j = hs H j) ∧ hiF (stH H k w) = hiF H ∧ hiN (stH H k w) = hiN H := by
  rcases l7 hk with rfl | rfl | rfl | rfl | rfl | rfl | rfl <;> refine ⟨rfl, fun j hj hne => ?_, rfl, rfl⟩ <;> rcases l7 hj with rfl | rfl | rfl | rfl | rfl | rfl | rfl <;> first | rfl | exact absurd rfl hne
theorem mod7 : ∀ m, m < 14 → nI m - nI m / 7 * 7 = nI (m % 7) := by decide +kernel
theorem c_prepare {H : V_Hi} {u : V_St} {n s a c : Nat} (I : INV u n s) (ha : a < 7) (hc : c ≤ 6) (h1 : hiF H = nI a) (h2 : hiN H = nI c) : ∃ w, f_Hi_prepare H u = some (stH H ((a + c) % 7) w) ∧ ALK u w n := by
  have h1' : H.2.2.2.2.2.2.2.1 = nI a := h1
  have h2' : H.2.2.2.2.2.2.2.2 = nI c := h2
  have hm : (a + c) % 7 < 7 := Nat.mod_lt _ (by omega)
  have hcl : (nI ((a + c) % 7)).toNatClampNeg = (a + c) % 7 := i_cl (by omega)
  obtain ⟨w, b1, b2⟩ := c_become (hs H ((a + c) % 7)) I
  refine ⟨w, ?_, b2⟩
  have eH : f_Hi_prepare H u = oc (f_St_become (hs H ((a + c) % 7)) u) (fun q => some (stH H ((a + c) % 7) q)) := by
    unfold f_Hi_prepare
    rw [h1', h2', i_add, mod7 _ (by omega), og_in hm (by omega), hcl]
    rcases l7 hm with e | e | e | e | e | e | e
    · rw [e, ob_t rfl]; rw [← h1', ← h2']; rfl
    · rw [e, ob_f (by decide), ob_t rfl]; rw [← h1', ← h2']; rfl
    · rw [e, ob_f (by decide), ob_f (by decide), ob_t rfl]; rw [← h1', ← h2']; rfl
    · rw [e, ob_f (by decide), ob_f (by decide), ob_f (by decide), ob_t rfl]; rw [← h1', ← h2']; rfl
    · rw [e, ob_f (by decide), ob_f (by decide), ob_f (by decide), ob_f (by decide), ob_t rfl]; rw [← h1', ← h2']; rfl
    · rw [e, ob_f (by decide), ob_f (by decide), ob_f (by decide), ob_f (by decide), ob_f (by decide), ob_t rfl]; rw [← h1', ← h2']; rfl
    · rw [e, ob_f (by decide), ob_f (by decide), ob_f (by decide), ob_f (by decide), ob_f (by decide), ob_f (by decide), ob_t rfl]; rw [← h1', ← h2']; rfl
  rw [eH, b1, oc_s]
theorem c_takeB {H : V_Hi} {u : V_St} {n s a c : Nat} (ha : a < 7) (hc1 : 1 ≤ c) (hc : c ≤ 6) (h1 : hiF H = nI a) (h2 : hiN H = nI c) (I : INV (hs H ((a + (c - 1)) % 7)) n s) : ∃ w, f_Hi_takeBack H u = some ((H.1, H.2.1, H.2.2.1, H.2.2.2.1, H.2.2.2.2.1, H.2.2.2.2.2.1, H.2.2.2.2.2.2.1, H.2.2.2.2.2.2.2.1, nI (c - 1)), w) ∧ ALK (hs H ((a + (c - 1)) % 7)) w n := by
  have h1' : H.2.2.2.2.2.2.2.1 = nI a := h1
  have h2' : H.2.2.2.2.2.2.2.2 = nI c := h2
  have hm : (a + (c - 1)) % 7 < 7 := Nat.mod_lt _ (by omega)
  have hcl : (nI ((a + (c - 1)) % 7)).toNatClampNeg = (a + (c - 1)) % 7 := i_cl (by omega)
  obtain ⟨w, b1, b2⟩ := c_become u I
  refine ⟨w, ?_, b2⟩
  have es : nI c - (1 : Int32) = nI (c - 1) := by rw [kk1, i_sub hc1]
  have en : ¬ nI c ≤ (0 : Int32) := by
    rw [k0]
    exact nI_ge (by omega) (by omega)
  have eH : f_Hi_takeBack H u = oc (f_St_become u (hs H ((a + (c - 1)) % 7))) (fun q => some ((H.1, H.2.1, H.2.2.1, H.2.2.2.1, H.2.2.2.2.1, H.2.2.2.2.2.1, H.2.2.2.2.2.2.1, nI a, nI (c - 1)), q)) := by
    unfold f_Hi_takeBack
    rw [h1', h2', ob_f en, es, i_add, mod7 _ (by omega), og_in hm (by omega), hcl]
    rcases l7 hm with e | e | e | e | e | e | e
    · rw [e, ob_t rfl]; rfl
    · rw [e, ob_f (by decide), ob_t rfl]; rfl
    · rw [e, ob_f (by decide), ob_f (by decide), ob_t rfl]; rfl
    · rw [e, ob_f (by decide), ob_f (by decide), ob_f (by decide), ob_t rfl]; rfl
    · rw [e, ob_f (by decide), ob_f (by decide), ob_f (by decide), ob_f (by decide), ob_t rfl]; rfl
    · rw [e, ob_f (by decide), ob_f (by decide), ob_f (by decide), ob_f (by decide), ob_f (by decide), ob_t rfl]; rfl
    · rw [e, ob_f (by decide), ob_f (by decide), ob_f (by decide), ob_f (by decide), ob_f (by decide), ob_f (by decide), ob_t rfl]; rfl
  rw [eH, b1, oc_s, h1']
/-- the rows of history -/
theorem r_record {M : V_Md} {c : Nat} (hc : c ≤ 6) (h : M.2.2.2.1 = nI c) : ∃ B, f_Md_record M = some (M.1, M.2.1, B, nI (min (c + 1) 6), M.2.2.2.2) ∧ (∀ j, j < 2400 → B (2400 * (min c 5) + j) = M.1 j) ∧ (∀ k j, k < min c 5 → j < 2400 → B (2400 * k + j) = M.2.2.1 (2400 * (k + (if c = 6 then 1 else 0)) + j)) := by
  have tail : ∀ (A : Nat → Int32) (d : Nat), d ≤ 5 → ∃ B, f_Md_record_50 (M.1, M.2.1, A, nI d, M.2.2.2.2) = some (M.1, M.2.1, B, nI (d + 1), M.2.2.2.2) ∧ (∀ j, j < 2400 → B (2400 * d + j) = M.1 j) ∧ ∀ j, j < 2400 * d → B j = A j := by
    intro A d hd
    obtain ⟨B, x1, x2, x3⟩ := r_copy (n1 := 2400) (n2 := 14400) (a := 0) (b := 2400 * d) (by omega) (by omega) (by omega) (by omega) M.1 A
    refine ⟨B, ?_, fun j hj => by rw [x2 j hj, Nat.zero_add], fun j hj => x3 j (by omega)⟩
    unfold f_Md_record_50
    show oc (f_Md_copyState 2400 14400 0 (2400 * nI d) M.1 A) (fun q_67 => some (M.1, M.2.1, q_67, nI d + 1, M.2.2.2.2)) = _
    rw [k2400, i_mul, k0, x1, oc_s, kk1, i_add]
  by_cases h6 : c = 6
  · subst h6
    have key : ∀ k i N (A : Nat → Int32), i + k = 12000 → k < N → (∀ j, j < i → A j = M.2.2.1 (j + 2400)) → (∀ j, i ≤ j → A j = M.2.2.1 j) → ∃ A', f_Md_record_11 N (nI i) (M.1, M.2.1, A, nI 6, M.2.2.2.2) = f_Md_record_50 (M.1, M.2.1, A', nI 5, M.2.2.2.2) ∧ ∀ j, j < 12000 → A' j = M.2.2.1 (j + 2400) := by
      intro k
      induction k with
      | zero =>
        intro i N A hi hN hA hB
        obtain ⟨N, rfl⟩ : ∃ q, N = q + 1 := ⟨N - 1, by omega⟩
        refine ⟨A, ?_, fun j hj => hA j (by omega)⟩
        have e : (12000 : Int32) = nI 12000 := rfl
        rw [e_Md_record_11, e, ob_let (by omega) (by omega)]
        show f_Md_record_50 (M.1, M.2.1, A, nI 6 - 1, M.2.2.2.2) = _
        rw [kk1, i_sub (by omega)]
      | succ k ih =>
        intro i N A hi hN hA hB
        obtain ⟨N, rfl⟩ : ∃ q, N = q + 1 := ⟨N - 1, by omega⟩
        obtain ⟨A', y1, y2⟩ := ih (i + 1) N (upd A i (A (i + 2400))) (by omega) (by omega) (fun j hj => by
          by_cases q : j = i
          · subst q
            rw [up_s, hB _ (by omega)]
          · rw [up_n _ _ q, hA j (by omega)]) (fun j hj => by rw [up_n _ _ (by omega), hB j (by omega)])
        refine ⟨A', ?_, y2⟩
        have e : (12000 : Int32) = nI 12000 := rfl
        rw [e_Md_record_11, e, ob_lef (by omega) (by omega), k2400, i_add, og_in (by omega) (by omega), og_in (by omega) (by omega), nx_s, i_cl (by omega), i_cl (by omega), kk1, i_add]
        exact y1
    obtain ⟨A', y1, y2⟩ := key 12000 0 FU M.2.2.1 (by omega) (by unfold FU; omega) (fun j hj => by omega) (fun j _ => rfl)
    obtain ⟨B, x1, x2, x3⟩ := tail A' 5 (by omega)
    refine ⟨B, ?_, x2, fun k j hk hj => ?_⟩
    · unfold f_Md_record
      rw [h, k6, ob_t rfl]
      have eM : M = (M.1, M.2.1, M.2.2.1, nI 6, M.2.2.2.2) := by rw [← h]
      exact (congrArg (fun z => f_Md_record_11 FU 0 z) eM).trans (y1.trans x1)
    · have e : 2400 * (k + 1) + j = 2400 * k + j + 2400 := by omega
      rw [x3 _ (by omega), y2 _ (by omega), if_pos rfl, e]
  · have h5 : min c 5 = c := Nat.min_eq_left (by omega)
    have h56 : min (c + 1) 6 = c + 1 := Nat.min_eq_left (by omega)
    obtain ⟨B, x1, x2, x3⟩ := tail M.2.2.1 c (by omega)
    refine ⟨B, ?_, ?_, fun k j hk hj => ?_⟩
    · unfold f_Md_record
      rw [h, k6, ob_eqf h6 (by omega) (by omega), h56]
      have eM : M = (M.1, M.2.1, M.2.2.1, nI c, M.2.2.2.2) := by rw [← h]
      exact (congrArg f_Md_record_50 eM).trans x1
    · rw [h5]; exact x2
    · rw [x3 _ (by omega), if_neg h6, Nat.add_zero]

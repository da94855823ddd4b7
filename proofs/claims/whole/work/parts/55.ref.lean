/-! ===== PURE 6: the reference's row ===== -/
def lgR (f : Nat → Int32) : Nat → E7 := fun i => (f (67 + 7 * (i - 1)), f (67 + 7 * (i - 1) + 1), f (67 + 7 * (i - 1) + 2), f (67 + 7 * (i - 1) + 3), f (67 + 7 * (i - 1) + 4), f (67 + 7 * (i - 1) + 5), f (67 + 7 * (i - 1) + 6))
theorem r_at {i : Nat} (h1 : 1 ≤ i) : f_Md_at (nI i) = some (nI (67 + 7 * (i - 1))) := by
  unfold f_Md_at
  rw [k67, k7, kk1, i_sub h1, i_mul, i_add]
section RR
variable {f : Nat → Int32} {n : Nat}
theorem r_lastOf (hn : f 57 = nI n) (h3 : n ≤ 300) (x : Int32) : f_Md_lastOf x f = some (nI (lst (lgR f) x n)) := by
  have key : ∀ i m, i < m → i ≤ 300 → f_Md_lastOf_5 m x (nI i) f = some (nI (lst (lgR f) x i)) := by
    intro i
    induction i with
    | zero =>
      intro m hm hi
      obtain ⟨m, rfl⟩ : ∃ q, m = q + 1 := ⟨m - 1, by omega⟩
      rw [e_Md_lastOf_5, k0, ob_let (by omega) (by omega)]
      rfl
    | succ i ih =>
      intro m hm hi
      obtain ⟨m, rfl⟩ : ∃ q, m = q + 1 := ⟨m - 1, by omega⟩
      rw [e_Md_lastOf_5, k0, ob_lef (by omega) (by omega), r_at (by omega), oc_s, kk1, i_add, og_in (by omega) (by omega), i_cl (by omega)]
      have e : f (67 + 7 * (i + 1 - 1) + 1) = (lgR f (i + 1)).2.1 := rfl
      rw [e]
      by_cases q : (lgR f (i + 1)).2.1 = x
      · rw [ob_t q, lst_hit q]
      · rw [ob_f q, lst_miss q, i_m1' (by omega)]
        exact ih m (by omega) (by omega)
  unfold f_Md_lastOf
  rw [k57, og_in (by omega) (by omega), i_cl (by omega), hn]
  exact key n FU (by unfold FU; omega) h3
theorem r_goes (hn : f 57 = nI n) (hV : VL (lgR f) n) {x : Int32} (ho : opn (lgR f) x n) : f_Md_goesOnWith x f = some (nI (gon (lgR f) x n)) := by
  have h3 := VL_300 hV
  have hle := lst_le (lgR f) x n
  have h1 := ho.1
  unfold f_Md_goesOnWith
  rw [r_lastOf hn h3, oc_s, k0, ob_lef (by omega) (by omega), r_at ho.1, oc_s, i_add, og_in (by omega) (by omega), i_cl (by omega), oc_s]
  have e : f (67 + 7 * (lst (lgR f) x n - 1) + 0) = (lgR f (lst (lgR f) x n)).1 := rfl
  rw [e]
  by_cases q : (lgR f (lst (lgR f) x n)).1 = 2
  · rw [ob_t q, k6, i_add, og_in (by omega) (by omega), i_cl (by omega)]
    exact congrArg some ((gon_ok n hV x ho).2.2.2.2 q)
  · rw [ob_f q]
    unfold gon
    rw [if_neg q]
theorem r_pagesOf (hn : f 57 = nI n) (h3 : n ≤ 300) (x : Int32) : f_Md_pagesOf x f = some (pgs (lgR f) x n) := by
  have or0 : ∀ z : Int32, z ||| (0 : Int32) = z := fun z => b_ext (fun i hi => by rw [b_or, b_0, Bool.or_false])
  have key : ∀ j i m, i + j = n → j < m → f_Md_pagesOf_4 m x (pgs (lgR f) x i) (nI (i + 1)) f = some (pgs (lgR f) x n) := by
    intro j
    induction j with
    | zero =>
      intro i m hi hm
      obtain ⟨m, rfl⟩ : ∃ q, m = q + 1 := ⟨m - 1, by omega⟩
      have : i = n := by omega
      subst this
      rw [e_Md_pagesOf_4, k57, og_in (by omega) (by omega), i_cl (by omega), hn, ob_ltt (by omega) (by omega)]
    | succ j ih =>
      intro i m hi hm
      obtain ⟨m, rfl⟩ : ∃ q, m = q + 1 := ⟨m - 1, by omega⟩
      rw [e_Md_pagesOf_4, k57, og_in (by omega) (by omega), i_cl (by omega), hn, ob_ltf (by omega) (by omega), r_at (by omega), oc_s, kk1, i_add, og_in (by omega) (by omega), i_cl (by omega)]
      have e : f (67 + 7 * (i + 1 - 1) + 1) = (lgR f (i + 1)).2.1 := rfl
      rw [e, oc_s, oc_s, k0, i_add, og_in (by omega) (by omega), i_cl (by omega), i_add]
      have e : f (67 + 7 * (i + 1 - 1) + 0) = (lgR f (i + 1)).1 := rfl
      rw [e]
      by_cases q : (lgR f (i + 1)).2.1 = x
      · rw [ob_t q]
        by_cases q2 : (lgR f (i + 1)).1 = 1
        · rw [ob_t (show (lgR f (i + 1)).1 = nI 1 from q2), k3, i_add, og_in (by omega) (by omega), i_cl (by omega)]
          have e : f (67 + 7 * (i + 1 - 1) + 3) = (lgR f (i + 1)).2.2.2.1 := rfl
          rw [e]
          have e2 := pgs_hit q q2
          rw [kk1] at e2
          rw [← e2]
          exact ih (i + 1) m (by omega) (by omega)
        · rw [ob_f (show ¬ (lgR f (i + 1)).1 = nI 1 from q2), ← k0, or0, ← pgs_miss (L := lgR f) (x := x) (n := i) (fun z => q2 z.2)]
          exact ih (i + 1) m (by omega) (by omega)
      · rw [ob_f q, ← k0, or0, ← pgs_miss (L := lgR f) (x := x) (n := i) (fun z => q z.1)]
        exact ih (i + 1) m (by omega) (by omega)
  unfold f_Md_pagesOf
  exact key n 0 FU (by omega) (by unfold FU; omega)
end RR
/-- the first number from i on, of k of them, that has a quality; -6 -/
noncomputable def fw (c : Nat → Prop) : Nat → Nat → Int32
  | _, 0 => -6
  | i, k + 1 => ob (c i) (nI i) (fw c (i + 1) k)
theorem fw_cg {c d : Nat → Prop} : ∀ k i, (∀ j, i ≤ j → j < i + k → (c j ↔ d j)) → fw c i k = fw d i k
  | 0, _, _ => rfl
  | k + 1, i, h => by
    unfold fw
    have e := fw_cg k (i + 1) (fun j a b => h j (by omega) (by omega))
    by_cases q : c i
    · rw [ob_t q, ob_t ((h i (by omega) (by omega)).mp q)]
    · rw [ob_f q, ob_f (fun z => q ((h i (by omega) (by omega)).mpr z)), e]
theorem fw_or {c : Nat → Prop} : ∀ k i, (fw c i k = -6 ∧ ∀ j, i ≤ j → j < i + k → ¬ c j) ∨ ∃ j, i ≤ j ∧ j < i + k ∧ c j ∧ fw c i k = nI j
  | 0, i => Or.inl ⟨rfl, fun j a b => by omega⟩
  | k + 1, i => by
    unfold fw
    by_cases q : c i
    · exact Or.inr ⟨i, by omega, by omega, q, ob_t q⟩
    · rw [ob_f q]
      rcases fw_or (c := c) k (i + 1) with ⟨h1, h2⟩ | ⟨j, h1, h2, h3, h4⟩
      · refine Or.inl ⟨h1, fun j a b => ?_⟩
        by_cases e : j = i
        · rw [e]; exact q
        · exact h2 j (by omega) (by omega)
      · exact Or.inr ⟨j, by omega, by omega, h3, h4⟩
/-- who holds a page -/
def hol (L : Nat → E7) (n p : Nat) (w : Nat) : Prop := opn L (nI w) n ∧ bt (pgs L (nI w) n) p = true
/-- the works' states in the row -/
def WFR (f : Nat → Int32) (n : Nat) : Prop := f 57 = nI n ∧ VL (lgR f) n ∧ f 56 = nI (nwk (lgR f) n) ∧ ∀ w, w < nwk (lgR f) n → f (40 + w) = sta (lgR f) (nI w) n
section RS
variable {f : Nat → Int32} {n : Nat}
theorem r_holder (h : WFR f n) {p : Nat} (hp : p < 8) : f_Md_holder (nI p) f = some (fw (hol (lgR f) n p) 0 (nwk (lgR f) n)) := by
  obtain ⟨h1, h2, h3, h4⟩ := h
  have h300 := VL_300 h2
  have h16 := nwk_16 n h2
  have key : ∀ j i m, i + j = nwk (lgR f) n → j < m → f_Md_holder_2 m (nI p) (nI i) f = some (fw (hol (lgR f) n p) i j) := by
    intro j
    induction j with
    | zero =>
      intro i m hi hm
      obtain ⟨m, rfl⟩ : ∃ q, m = q + 1 := ⟨m - 1, by omega⟩
      rw [e_Md_holder_2, k56, og_in (by omega) (by omega), i_cl (by omega), h3, ob_let (by omega) (by omega)]
      rfl
    | succ j ih =>
      intro i m hi hm
      obtain ⟨m, rfl⟩ : ∃ q, m = q + 1 := ⟨m - 1, by omega⟩
      rw [e_Md_holder_2, k56, og_in (by omega) (by omega), i_cl (by omega), h3, ob_lef (by omega) (by omega), k40, i_add, og_in (by omega) (by omega), i_cl (by omega), h4 i (by omega), r_pagesOf h1 h300, oc_s]
      unfold fw
      have hr : f_Md_holder_2 m (nI p) (nI i + 1) f = some (fw (hol (lgR f) n p) (i + 1) j) := by
        rw [kk1, i_add]
        exact ih (i + 1) m (by omega) (by omega)
      rw [hr]
      have hs := sta_0 (wk_has n h2 i (by omega))
      by_cases q : opn (lgR f) (nI i) n
      · rw [ob_t (hs.mpr q)]
        by_cases q2 : bt (pgs (lgR f) (nI i) n) p = true
        · rw [ob_t ((hb_iff _ (by omega)).mpr q2), ob_t (show hol (lgR f) n p i from ⟨q, q2⟩)]
        · rw [ob_f (fun z => q2 ((hb_iff _ (by omega)).mp z)), ob_f (fun z : hol (lgR f) n p i => q2 z.2)]
      · rw [ob_f (fun z => q (hs.mp z)), ob_f (fun z : hol (lgR f) n p i => q z.1)]
  unfold f_Md_holder
  exact key _ 0 FU (by omega) (by unfold FU; omega)
end RS
/-- a row with one more entry -/
def addR (f : Nat → Int32) (n : Nat) (e : E7) : Nat → Int32 := upd (upd (upd (upd (upd (upd (upd (upd f 57 (nI (n + 1))) (67 + 7 * n) e.1) (67 + 7 * n + 1) e.2.1) (67 + 7 * n + 2) e.2.2.1) (67 + 7 * n + 3) e.2.2.2.1) (67 + 7 * n + 4) e.2.2.2.2.1) (67 + 7 * n + 5) e.2.2.2.2.2.1) (67 + 7 * n + 6) e.2.2.2.2.2.2
theorem addR_lo (f : Nat → Int32) (n : Nat) (e : E7) {j : Nat} (h : j < 67) (h2 : j ≠ 57) : addR f n e j = f j := by
  unfold addR
  simp (disch := omega) only [up_n]
theorem addR_57 (f : Nat → Int32) (n : Nat) (e : E7) : addR f n e 57 = nI (n + 1) := by
  unfold addR
  simp (disch := omega) only [up_n, up_s]
theorem addR_new (f : Nat → Int32) (n : Nat) (e : E7) : lgR (addR f n e) (n + 1) = e := by
  unfold lgR addR
  simp (disch := omega) only [up_n, up_s, Nat.add_sub_cancel]
theorem addR_old (f : Nat → Int32) (n : Nat) (e : E7) {i : Nat} (h1 : 1 ≤ i) (h : i ≤ n) : lgR (addR f n e) i = lgR f i := by
  unfold lgR addR
  simp (disch := omega) only [up_n]
theorem r_enter13 {f : Nat → Int32} {n : Nat} (hn : f 57 = nI n) (h3 : n < 300) (k x p b t g z : Int32) : f_Md_enter_13 k x p b t g z f = some (nI (n + 1), addR f n (k, x, z, p, b, t, g)) := by
  unfold f_Md_enter_13
  have ea : f_Md_at (nI (n + 1)) = some (nI (67 + 7 * n)) := by rw [r_at (by omega)]; rfl
  simp (disch := omega) only [k57, kk1, k2, k3, k4, k5, k6, og_in, i_cl, nx_s, hn, i_add, up_s, ea, oc_s, k0, Nat.add_zero]
  rfl
theorem r_enter {f : Nat → Int32} {n : Nat} (hn : f 57 = nI n) (h3 : n < 300) (k x p b t g : Int32) (hz : k = 0 → lst (lgR f) x n = 0) : f_Md_enter k x p b t g f = some (nI (n + 1), addR f n (k, x, nI (lst (lgR f) x n), p, b, t, g)) := by
  unfold f_Md_enter
  by_cases q : k = 0
  · rw [ob_t q, r_enter13 hn h3, hz q]
    rfl
  · rw [ob_f q, r_lastOf hn (by omega), oc_s, r_enter13 hn h3]

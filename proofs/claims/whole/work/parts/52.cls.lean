/-! ===== Int32 by its bits: bt x i ===== -/
def bt (x : Int32) (i : Nat) : Bool := x.toBitVec.getLsbD i
theorem b_ext {x y : Int32} (h : ∀ i, i < 32 → bt x i = bt y i) : x = y := Int32.toBitVec_inj.mp (BitVec.eq_of_getLsbD_eq (fun i hi => h i hi))
theorem b_or (x y : Int32) (i : Nat) : bt (x ||| y) i = (bt x i || bt y i) := by unfold bt; rw [Int32.toBitVec_or, BitVec.getLsbD_or]
theorem b_and (x y : Int32) (i : Nat) : bt (x &&& y) i = (bt x i && bt y i) := by unfold bt; rw [Int32.toBitVec_and, BitVec.getLsbD_and]
theorem b_big {x : Int32} {i : Nat} (h : 32 ≤ i) : bt x i = false := BitVec.getLsbD_of_ge _ _ h
theorem b_0 (i : Nat) : bt 0 i = false := BitVec.getLsbD_zero
theorem s_l : ∀ n, n < 32 → ((nI n &&& 31).toBitVec.smod 32).toNat = n := by decide +kernel
theorem b_shl (n : Nat) (hn : n < 32) (x : Int32) {i : Nat} (hi : i < 32) : bt (x <<< (nI n &&& 31)) i = (decide (n ≤ i) && bt x (i - n)) := by
  unfold bt
  rw [Int32.toBitVec_shiftLeft]
  show (x.toBitVec <<< ((nI n &&& 31).toBitVec.smod 32).toNat).getLsbD i = _
  rw [s_l n hn, BitVec.getLsbD_shiftLeft]
  rcases Nat.lt_or_ge i n with h | h
  · simp [h, Nat.not_le.mpr h]
  · simp [hi, h, Nat.not_lt.mpr h]
theorem b_sshr (n : Nat) (hn : n < 32) (x : Int32) {i : Nat} (hi : i < 32) : bt (x >>> (nI n &&& 31)) i = if n + i < 32 then bt x (n + i) else bt x 31 := by
  unfold bt
  rw [Int32.toBitVec_shiftRight]
  show (x.toBitVec.sshiftRight ((nI n &&& 31).toBitVec.smod 32).toNat).getLsbD i = _
  rw [s_l n hn, BitVec.getLsbD_sshiftRight, BitVec.msb_eq_getLsbD_last]
  simp [hi]
theorem b_1 : ∀ i, i < 32 → bt 1 i = decide (i = 0) := by decide +kernel
theorem hb_iff (x : Int32) {n : Nat} (hn : n < 31) : ((x >>> (nI n &&& 31)) &&& (1 : Int32)) = (1 : Int32) ↔ bt x n = true := by
  constructor
  · intro h
    have h1 := congrArg (fun z => bt z 0) h
    simp only [b_and] at h1
    rw [b_sshr n (by omega) x (by omega), if_pos (by omega), b_1 0 (by omega)] at h1
    simpa using h1
  · intro h
    apply b_ext
    intro i hi
    rw [b_and, b_1 i hi, b_sshr n (by omega) x hi]
    by_cases e : i = 0
    · subst e
      rw [if_pos (by omega)]
      simpa using h
    · simp [e]
theorem hb_or (x : Int32) {p q : Nat} (hp : p < 31) (hq : q < 31) : bt (x ||| ((1 : Int32) <<< (nI p &&& 31))) q = (bt x q || decide (q = p)) := by
  rw [b_or, b_shl p (by omega) 1 (by omega)]
  by_cases e : p ≤ q
  · rw [b_1 (q - p) (by omega)]
    have : (q - p = 0) = (q = p) := by
      apply propext
      omega
    simp only [this, e, decide_true, Bool.true_and]
  · have : ¬ q = p := by omega
    simp [e, this]
theorem ob_T {α : Sort _} {A B : α} : ob True A B = A := ob_t trivial
theorem ob_F {α : Sort _} {A B : α} : ob False A B = B := ob_f (fun h => h)
/-! pages of the class -/
abbrev hnd (g : V_Pg) (p : Nat) : Prop := bt g.2.2.2.2 p = true
theorem c_isPage {p : Nat} (h : p < 8) : f_Fd_isPage (nI p) = some 1 := by
  unfold f_Fd_isPage
  simp (disch := omega) only [k0, k8, ob_ltf, ob_lef]
theorem c_isPageN {p : Nat} (h : 8 ≤ p) (h2 : p < 2147483648) : f_Fd_isPage (nI p) = some 0 := by
  unfold f_Fd_isPage
  simp (disch := omega) only [k0, k8, ob_ltf, ob_let]
theorem c_isPageM {x : Int32} (h : x < 0) : f_Fd_isPage x = some 0 := by
  unfold f_Fd_isPage
  rw [ob_t h]
theorem c_inHand {p : Nat} (hp : p < 8) {g : V_Pg} (h : hnd g p) : f_Pg_isInHand (nI p) g = some 1 := by
  unfold f_Pg_isInHand
  rw [c_isPage hp, oc_s, ob_not d10, ob_t ((hb_iff _ (by omega)).mpr h)]
theorem c_inHandN {p : Nat} (hp : p < 8) {g : V_Pg} (h : ¬ hnd g p) : f_Pg_isInHand (nI p) g = some 0 := by
  unfold f_Pg_isInHand
  rw [c_isPage hp, oc_s, ob_not d10, ob_f (fun q => h ((hb_iff _ (by omega)).mp q))]
theorem c_valS {p : Nat} (hp : p < 8) (g : V_Pg) : f_Pg_valueOnShelf (nI p) g = some (g.1 p) := by
  unfold f_Pg_valueOnShelf
  rw [c_isPage hp, oc_s, ob_not d10, og_in hp (by omega), i_cl (by omega)]
theorem c_marS {p : Nat} (hp : p < 8) (g : V_Pg) : f_Pg_markOnShelf (nI p) g = some (g.2.1 p) := by
  unfold f_Pg_markOnShelf
  rw [c_isPage hp, oc_s, ob_not d10, og_in hp (by omega), i_cl (by omega)]
theorem c_valH {p : Nat} (hp : p < 8) {g : V_Pg} (h : hnd g p) : f_Pg_valueInHand (nI p) g = some (g.2.2.1 p) := by
  unfold f_Pg_valueInHand
  rw [c_inHand hp h, oc_s, ob_not d10, og_in hp (by omega), i_cl (by omega)]
theorem c_valHN {p : Nat} (hp : p < 8) {g : V_Pg} (h : ¬ hnd g p) : f_Pg_valueInHand (nI p) g = some (-6) := by
  unfold f_Pg_valueInHand
  rw [c_inHandN hp h, oc_s, ob_rfl]
theorem c_marH {p : Nat} (hp : p < 8) {g : V_Pg} (h : hnd g p) : f_Pg_markInHand (nI p) g = some (g.2.2.2.1 p) := by
  unfold f_Pg_markInHand
  rw [c_inHand hp h, oc_s, ob_not d10, og_in hp (by omega), i_cl (by omega)]
theorem c_marHN {p : Nat} (hp : p < 8) {g : V_Pg} (h : ¬ hnd g p) : f_Pg_markInHand (nI p) g = some (-6) := by
  unfold f_Pg_markInHand
  rw [c_inHandN hp h, oc_s, ob_rfl]
/-- a page in hand gets a value and a mark -/
def chg (g : V_Pg) (p : Nat) (x y : Int32) : V_Pg := (g.1, g.2.1, upd g.2.2.1 p x, upd g.2.2.2.1 p y, g.2.2.2.2 ||| ((1 : Int32) <<< (nI p &&& 31)))
theorem c_change {p : Nat} (hp : p < 8) (x y : Int32) (g : V_Pg) : f_Pg_change (nI p) x y g = some (chg g p x y) := by
  unfold f_Pg_change chg
  rw [c_isPage hp, oc_s, ob_not d10, og_in hp (by omega), nx_s, og_in hp (by omega), nx_s, i_cl (by omega)]
theorem chg_h {p q : Nat} (hp : p < 8) (hq : q < 8) (g : V_Pg) (x y : Int32) : hnd (chg g p x y) q ↔ (hnd g q ∨ q = p) := by
  show bt (g.2.2.2.2 ||| ((1 : Int32) <<< (nI p &&& 31))) q = true ↔ _
  rw [hb_or _ (by omega) (by omega)]
  simp [hnd]

noncomputable def tkh (g : V_Pg) (p : Nat) : V_Pg := ob (hnd g p) g (chg g p (g.1 p) (g.2.1 p))
theorem c_take {p : Nat} (hp : p < 8) (g : V_Pg) : f_Pg_takeIntoHand (nI p) g = some (tkh g p) := by
  unfold f_Pg_takeIntoHand tkh
  rw [c_isPage hp, oc_s, ob_not d10]
  by_cases h : hnd g p
  · rw [c_inHand hp h, oc_s, ob_not d10, ob_t h]
  · rw [c_inHandN hp h, oc_s, ob_rfl, og_in hp (by omega), og_in hp (by omega), i_cl (by omega), c_change hp, oc_s, ob_f h]
theorem c_shelve {p : Nat} (hp : p < 8) {g : V_Pg} (h : hnd g p) : f_Pg_shelve (nI p) g = some (upd g.1 p (g.2.2.1 p), upd g.2.1 p (g.2.2.2.1 p), g.2.2.1, g.2.2.2.1, g.2.2.2.2) := by
  unfold f_Pg_shelve
  simp (disch := omega) only [c_inHand hp h, oc_s, ob_not d10, og_in, i_cl, nx_s]
theorem c_dirty {p : Nat} (hp : p < 8) {g : V_Pg} (h : hnd g p ∧ ¬ g.2.2.2.1 p = g.2.1 p) : f_Pg_isDirty (nI p) g = some 1 := by
  unfold f_Pg_isDirty
  rw [c_inHand hp h.1, oc_s, ob_not d10, og_in hp (by omega), og_in hp (by omega), i_cl (by omega), ob_f h.2]
theorem c_dirtyN {p : Nat} (hp : p < 8) {g : V_Pg} (h : ¬ (hnd g p ∧ ¬ g.2.2.2.1 p = g.2.1 p)) : f_Pg_isDirty (nI p) g = some 0 := by
  unfold f_Pg_isDirty
  by_cases q : hnd g p
  · rw [c_inHand hp q, oc_s, ob_not d10, og_in hp (by omega), og_in hp (by omega), i_cl (by omega), ob_t (Classical.not_not.mp (fun z => h ⟨q, z⟩))]
  · rw [c_inHandN hp q, oc_s, ob_rfl]
/-- a set of the numbers below n that have a quality -/
noncomputable def fset (c : Nat → Prop) : Nat → Int32
  | 0 => 0
  | n + 1 => ob (c n) (fset c n ||| ((1 : Int32) <<< (nI n &&& 31))) (fset c n)
theorem fset_t {c : Nat → Prop} {n : Nat} (h : c n) : fset c (n + 1) = fset c n ||| ((1 : Int32) <<< (nI n &&& 31)) := ob_t h
theorem fset_f {c : Nat → Prop} {n : Nat} (h : ¬ c n) : fset c (n + 1) = fset c n := ob_f h
theorem fset_cg {c d : Nat → Prop} : ∀ n, (∀ i, i < n → (c i ↔ d i)) → fset c n = fset d n
  | 0, _ => rfl
  | n + 1, h => by
    have e := fset_cg n (fun i hi => h i (by omega))
    by_cases q : c n
    · rw [fset_t q, fset_t ((h n (by omega)).mp q), e]
    · rw [fset_f q, fset_f (fun z => q ((h n (by omega)).mpr z)), e]
theorem c_dirtySet (g : V_Pg) : f_Pg_dirtySet g = some (fset (fun p => hnd g p ∧ ¬ g.2.2.2.1 p = g.2.1 p) 8) := by
  have key : ∀ k i n, i + k = 8 → k < n → f_Pg_dirtySet_4 n (fset (fun p => hnd g p ∧ ¬ g.2.2.2.1 p = g.2.1 p) i) (nI i) g = some (fset (fun p => hnd g p ∧ ¬ g.2.2.2.1 p = g.2.1 p) 8) := by
    intro k
    induction k with
    | zero =>
      intro i n hi hn
      obtain ⟨n, rfl⟩ : ∃ j, n = j + 1 := ⟨n - 1, by omega⟩
      have : i = 8 := by omega
      subst this
      rw [e_Pg_dirtySet_4, k8, ob_let (by omega) (by omega)]
    | succ k ih =>
      intro i n hi hn
      obtain ⟨n, rfl⟩ : ∃ j, n = j + 1 := ⟨n - 1, by omega⟩
      rw [e_Pg_dirtySet_4, k8, ob_lef (by omega) (by omega)]
      by_cases q : hnd g i ∧ ¬ g.2.2.2.1 i = g.2.1 i
      · rw [c_dirty (by omega) q, oc_s, ob_not d10, k1, i_add, ← k1, ← fset_t (c := fun p => hnd g p ∧ ¬ g.2.2.2.1 p = g.2.1 p) q]
        exact ih (i + 1) n (by omega) (by omega)
      · rw [c_dirtyN (by omega) q, oc_s, ob_rfl, k1, i_add, ← fset_f (c := fun p => hnd g p ∧ ¬ g.2.2.2.1 p = g.2.1 p) q]
        exact ih (i + 1) n (by omega) (by omega)
  unfold f_Pg_dirtySet
  exact key 8 0 FU (by omega) (by unfold FU; omega)
/-- the greatest of the marks on the shelf -/
theorem c_high {g : V_Pg} {mk : Nat → Nat} (hm : ∀ p, p < 8 → g.2.1 p = nI (mk p) ∧ mk p < 2147483648) : ∃ M, M < 2147483648 ∧ f_Pg_highestShelfMark g = some (nI M) ∧ ∀ b, M ≤ b ↔ ∀ p, p < 8 → mk p ≤ b := by
  have key : ∀ k i n M, i + k = 8 → k < n → M < 2147483648 → (∀ b, M ≤ b ↔ ∀ p, p < i → mk p ≤ b) → ∃ M', M' < 2147483648 ∧ f_Pg_highestShelfMark_4 n (nI M) (nI i) g = some (nI M') ∧ ∀ b, M' ≤ b ↔ ∀ p, p < 8 → mk p ≤ b := by
    intro k
    induction k with
    | zero =>
      intro i n M hi hn hM hb
      obtain ⟨n, rfl⟩ : ∃ j, n = j + 1 := ⟨n - 1, by omega⟩
      have : i = 8 := by omega
      subst this
      refine ⟨M, hM, ?_, hb⟩
      rw [e_Pg_highestShelfMark_4, k8, ob_let (by omega) (by omega)]
    | succ k ih =>
      intro i n M hi hn hM hb
      obtain ⟨n, rfl⟩ : ∃ j, n = j + 1 := ⟨n - 1, by omega⟩
      obtain ⟨e1, e2⟩ := hm i (by omega)
      rw [e_Pg_highestShelfMark_4, k8, ob_lef (by omega) (by omega), og_in (by omega) (by omega), i_cl (by omega), e1, i_max _ _ hM e2, k1, i_add]
      refine ih (i + 1) n (max M (mk i)) (by omega) (by omega) (by omega) (fun b => ?_)
      constructor
      · intro h p hp
        by_cases e : p = i
        · subst e; omega
        · exact (hb b).mp (by omega) p (by omega)
      · intro h
        have h1 := (hb b).mpr (fun p hp => h p (by omega))
        have h2 := h i (by omega)
        omega
  obtain ⟨M, h1, h2, h3⟩ := key 8 0 FU 0 (by omega) (by unfold FU; omega) (by omega) (fun b => ⟨fun _ p hp => by omega, fun _ => by omega⟩)
  exact ⟨M, h1, h2, h3⟩
theorem cpy8 {f g : Nat → Int32} {p N : Nat} (h : p < N) : va_cpy f g 0 0 N p = f p := by
  unfold va_cpy
  rw [if_pos (by omega)]
  congr 1
  omega
/-! entries of the class -/
abbrev dsz (d : V_Dy) : Int32 := d.2.2.2.2.2.2.2.1
abbrev dsv (d : V_Dy) : Int32 := d.2.2.2.2.2.2.2.2
def lgD (d : V_Dy) : Nat → E7 := fun i => (d.1 i, d.2.1 i, d.2.2.1 i, d.2.2.2.1 i, d.2.2.2.2.1 i, d.2.2.2.2.2.1 i, d.2.2.2.2.2.2.1 i)
theorem c_has {d : V_Dy} {n i : Nat} (hn : dsz d = nI n) (h3 : n ≤ 300) (h1 : 1 ≤ i) (h2 : i ≤ n) : f_Dy_has (nI i) d = some 1 := by
  unfold f_Dy_has
  unfold dsz at hn
  rw [hn]
  simp (disch := omega) only [k1, k300, ob_ltf]
theorem c_hasN {d : V_Dy} {n i : Nat} (hn : dsz d = nI n) (h3 : n ≤ 300) (h : ¬ (1 ≤ i ∧ i ≤ n)) (hi : i < 2147483648) : f_Dy_has (nI i) d = some 0 := by
  unfold f_Dy_has
  unfold dsz at hn
  rw [hn]
  by_cases q : i < 1
  · simp (disch := omega) only [k1, k300, ob_ltt]
  · simp (disch := omega) only [k1, k300, ob_ltf, ob_ltt]
theorem c_hasM {d : V_Dy} {x : Int32} (h : x < 0) : f_Dy_has x d = some 0 := by
  unfold f_Dy_has
  rw [ob_t]
  exact i_neg_lt h (n := 1) (by omega)
section DG
variable {d : V_Dy} {n i : Nat}
theorem c_kind (hn : dsz d = nI n) (h3 : n ≤ 300) (h1 : 1 ≤ i) (h2 : i ≤ n) : f_Dy_kindOf (nI i) d = some (d.1 i) := by
  unfold f_Dy_kindOf
  rw [c_has hn h3 h1 h2, oc_s, ob_not d10, og_in (by omega) (by omega), i_cl (by omega)]
theorem c_work (hn : dsz d = nI n) (h3 : n ≤ 300) (h1 : 1 ≤ i) (h2 : i ≤ n) : f_Dy_workOf (nI i) d = some (d.2.1 i) := by
  unfold f_Dy_workOf
  rw [c_has hn h3 h1 h2, oc_s, ob_not d10, og_in (by omega) (by omega), i_cl (by omega)]
theorem c_earl (hn : dsz d = nI n) (h3 : n ≤ 300) (h1 : 1 ≤ i) (h2 : i ≤ n) : f_Dy_earlierOf (nI i) d = some (d.2.2.1 i) := by
  unfold f_Dy_earlierOf
  rw [c_has hn h3 h1 h2, oc_s, ob_not d10, og_in (by omega) (by omega), i_cl (by omega)]
theorem c_page (hn : dsz d = nI n) (h3 : n ≤ 300) (h1 : 1 ≤ i) (h2 : i ≤ n) : f_Dy_pageOf (nI i) d = some (d.2.2.2.1 i) := by
  unfold f_Dy_pageOf
  rw [c_has hn h3 h1 h2, oc_s, ob_not d10, og_in (by omega) (by omega), i_cl (by omega)]
theorem c_befo (hn : dsz d = nI n) (h3 : n ≤ 300) (h1 : 1 ≤ i) (h2 : i ≤ n) : f_Dy_beforeOf (nI i) d = some (d.2.2.2.2.1 i) := by
  unfold f_Dy_beforeOf
  rw [c_has hn h3 h1 h2, oc_s, ob_not d10, og_in (by omega) (by omega), i_cl (by omega)]
theorem c_then (hn : dsz d = nI n) (h3 : n ≤ 300) (h1 : 1 ≤ i) (h2 : i ≤ n) : f_Dy_thenOf (nI i) d = some (d.2.2.2.2.2.1 i) := by
  unfold f_Dy_thenOf
  rw [c_has hn h3 h1 h2, oc_s, ob_not d10, og_in (by omega) (by omega), i_cl (by omega)]
theorem c_next (hn : dsz d = nI n) (h3 : n ≤ 300) (h1 : 1 ≤ i) (h2 : i ≤ n) : f_Dy_nextOf (nI i) d = some (d.2.2.2.2.2.2.1 i) := by
  unfold f_Dy_nextOf
  rw [c_has hn h3 h1 h2, oc_s, ob_not d10, og_in (by omega) (by omega), i_cl (by omega)]
end DG
/-- a diary with one more entry -/
def addE (d : V_Dy) (n : Nat) (e : E7) : V_Dy := (upd d.1 (n + 1) e.1, upd d.2.1 (n + 1) e.2.1, upd d.2.2.1 (n + 1) e.2.2.1, upd d.2.2.2.1 (n + 1) e.2.2.2.1, upd d.2.2.2.2.1 (n + 1) e.2.2.2.2.1, upd d.2.2.2.2.2.1 (n + 1) e.2.2.2.2.2.1, upd d.2.2.2.2.2.2.1 (n + 1) e.2.2.2.2.2.2, nI (n + 1), d.2.2.2.2.2.2.2.2)
theorem up_up (f : Nat → Int32) (k : Nat) (x y : Int32) : upd (upd f k x) k y = upd f k y := by
  funext j
  unfold upd
  split <;> rfl
theorem c_add {d : V_Dy} {n : Nat} (hn : dsz d = nI n) (h3 : n < 300) (x y z : Int32) : f_Dy_add x y z d = some (nI (n + 1), addE d n (x, y, z, -6, -6, -6, -6)) := by
  unfold f_Dy_add addE
  unfold dsz at hn
  rw [hn]
  simp (disch := omega) only [k1, k300, ob_ltt, i_add, og_in, nx_s, i_cl]
theorem c_tell {d : V_Dy} {n : Nat} (h3 : n < 300) (x y z p b t g : Int32) : f_Dy_tellPage (nI (n + 1)) p b t g (addE d n (x, y, z, -6, -6, -6, -6)) = some (addE d n (x, y, z, p, b, t, g)) := by
  unfold f_Dy_tellPage
  rw [c_has (n := n + 1) rfl (by omega) (by omega) (by omega), oc_s, ob_not d10]
  simp (disch := omega) only [og_in, nx_s, i_cl]
  unfold addE
  simp only [up_up]
theorem lgD_new (d : V_Dy) (n : Nat) (e : E7) : lgD (addE d n e) (n + 1) = e := by
  unfold lgD addE
  simp only [up_s]
theorem lgD_old (d : V_Dy) (n : Nat) (e : E7) {i : Nat} (h : i ≠ n + 1) : lgD (addE d n e) i = lgD d i := by
  unfold lgD addE
  simp only [up_n _ _ h]

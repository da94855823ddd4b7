/-! ===== PURE 22: the settled value ===== -/
def fs (L : Nat → E7) (x : Int32) (p : Nat) : Nat → Nat
  | 0 => 0
  | n + 1 => if fs L x p n = 0 then (if (L (n + 1)).2.1 = x ∧ (L (n + 1)).1 = 1 ∧ (L (n + 1)).2.2.2.1 = nI p then n + 1 else 0) else fs L x p n
section FS
variable {L : Nat → E7} {x : Int32} {p : Nat}
theorem fs_old {n : Nat} (h : ¬ fs L x p n = 0) : fs L x p (n + 1) = fs L x p n := by
  show (if _ then _ else _) = _
  rw [if_neg h]
theorem fs_hit {n : Nat} (h : fs L x p n = 0) (q : (L (n + 1)).2.1 = x ∧ (L (n + 1)).1 = 1 ∧ (L (n + 1)).2.2.2.1 = nI p) : fs L x p (n + 1) = n + 1 := by
  show (if _ then _ else _) = _
  rw [if_pos h, if_pos q]
theorem fs_miss {n : Nat} (q : ¬ ((L (n + 1)).2.1 = x ∧ (L (n + 1)).1 = 1 ∧ (L (n + 1)).2.2.2.1 = nI p)) : fs L x p (n + 1) = fs L x p n := by
  by_cases h : fs L x p n = 0
  · show (if _ then _ else _) = _
    rw [if_pos h, if_neg q, h]
  · exact fs_old h
theorem fs_le : ∀ n, fs L x p n ≤ n
  | 0 => Nat.le_refl _
  | n + 1 => by
    have := fs_le n
    by_cases h : fs L x p n = 0
    · by_cases q : (L (n + 1)).2.1 = x ∧ (L (n + 1)).1 = 1 ∧ (L (n + 1)).2.2.2.1 = nI p
      · rw [fs_hit h q]
        exact Nat.le_refl _
      · rw [fs_miss q]; omega
    · rw [fs_old h]; omega
theorem fs_lst : ∀ n, fs L x p n = fs L x p (lst L x n)
  | 0 => rfl
  | n + 1 => by
    by_cases e : (L (n + 1)).2.1 = x
    · rw [lst_hit e]
    · rw [lst_miss e, fs_miss (fun q => e q.1)]
      exact fs_lst n
theorem fs_at : ∀ n, ¬ fs L x p n = 0 → (L (fs L x p n)).2.1 = x ∧ (L (fs L x p n)).1 = 1 ∧ (L (fs L x p n)).2.2.2.1 = nI p
  | 0, h => absurd rfl h
  | n + 1, h => by
    by_cases h0 : fs L x p n = 0
    · by_cases q : (L (n + 1)).2.1 = x ∧ (L (n + 1)).1 = 1 ∧ (L (n + 1)).2.2.2.1 = nI p
      · rw [fs_hit h0 q]
        exact q
      · rw [fs_miss q] at h
        exact absurd h0 h
    · rw [fs_old h0]
      exact fs_at n h0
theorem fs_wr : ∀ n, ¬ fs L x p n = 0 ↔ wrote L x (nI p) n
  | 0 => ⟨fun h => absurd rfl h, fun ⟨i, a, b, _⟩ => by omega⟩
  | n + 1 => by
    have ih := fs_wr n
    by_cases q : (L (n + 1)).2.1 = x ∧ (L (n + 1)).1 = 1 ∧ (L (n + 1)).2.2.2.1 = nI p
    · refine ⟨fun _ => ⟨n + 1, by omega, Nat.le_refl _, q.1, q.2.1, q.2.2⟩, fun _ => ?_⟩
      by_cases h0 : fs L x p n = 0
      · rw [fs_hit h0 q]; omega
      · rw [fs_old h0]; exact h0
    · rw [fs_miss q, ih]
      constructor
      · rintro ⟨i, a, b, c⟩
        exact ⟨i, a, by omega, c⟩
      · rintro ⟨i, a, b, c⟩
        by_cases z : i = n + 1
        · subst z
          exact absurd c q
        · exact ⟨i, a, by omega, c⟩
end FS
theorem fs_cg {L L' : Nat → E7} (x : Int32) (p : Nat) : ∀ n, (∀ i, 1 ≤ i → i ≤ n → L i = L' i) → fs L x p n = fs L' x p n
  | 0, _ => rfl
  | n + 1, h => by
    unfold fs
    rw [h (n + 1) (by omega) (by omega), fs_cg x p n (fun i a b => h i a (by omega))]
noncomputable abbrev pval (g : V_Pg) (p : Nat) : Int32 := (tkh g p).2.2.1 p
theorem val_h {g : V_Pg} {p : Nat} (h : hnd g p) : pval g p = g.2.2.1 p := by
  unfold pval tkh
  rw [ob_t h]
theorem val_n {g : V_Pg} {p : Nat} (h : ¬ hnd g p) : pval g p = g.1 p := by
  unfold pval tkh
  rw [ob_f h]
  exact up_s _ _ _
theorem val_chg {g : V_Pg} {p q : Nat} (hp : p < 8) (hq : q < 8) (b m : Int32) : pval (chg g q b m) p = if p = q then b else pval g p := by
  have hh := chg_h hq hp g b m
  by_cases e : p = q
  · rw [if_pos e, val_h (hh.mpr (Or.inr e)), e]
    exact up_s _ _ _
  · rw [if_neg e]
    by_cases k : hnd g p
    · rw [val_h (hh.mpr (Or.inl k)), val_h k]
      exact up_n _ _ e
    · rw [val_n (fun z => (hh.mp z).elim k e), val_n k]
      rfl
def fv (L : Nat → E7) (m : Nat) (z : Int32) : Int32 := if m = 0 then z else (L m).2.2.2.2.1
theorem fv_0 (L : Nat → E7) (z : Int32) : fv L 0 z = z := rfl
theorem val_back {L : Nat → E7} {n p : Nat} {x : Int32} {g : V_Pg} (hV : VL L n) (ho : opn L x n) (hp : p < 8) : pval (pgB L n x g) p = if (L (gon L x n)).1 = 1 ∧ (L (gon L x n)).2.2.2.1 = nI p then (L (gon L x n)).2.2.2.2.1 else pval g p := by
  obtain ⟨m1, m2, m3, m4, -⟩ := gon_ok n hV x ho
  have hmn : gon L x n ≤ n := Nat.le_trans m2 (lst_le _ _ _)
  unfold pgB
  by_cases k : (L (gon L x n)).1 = 1
  · obtain ⟨-, -, -, ⟨q, q1, q2⟩, -⟩ := vent_1 (VL_at hV m1 hmn) k
    rw [ob_t k, q2, i_cl (by omega), val_chg hp q1]
    by_cases e : p = q
    · rw [if_pos e, if_pos ⟨k, by rw [e]⟩]
    · rw [if_neg e, if_neg (fun z => e (i_inj (by omega) (by omega) z.2.symm))]
  · rw [ob_f k, if_neg (fun z => k z.1)]
theorem tearC {w p : Nat} (hp : p < 8) (K : Int32 → V_St → Option V_St) : ∀ (dep : Nat) (v : V_St) (n i N : Nat), WFL v n → w < nwk (lgD v.2.1) n → opn (lgD v.2.1) (nI w) n → ga (lgD v.2.1) (nI w) (gon (lgD v.2.1) (nI w) n) = dep → dep < N → i + dep < 2000 →
    ∃ v', f_St_tearAllOpen_36 K N (nI w) (nI (i + dep)) (nI i) v = K (nI (w + 1)) v' ∧ WFL v' (n + dep) ∧ nwk (lgD v'.2.1) (n + dep) = nwk (lgD v.2.1) n ∧ (∀ j, 1 ≤ j → j ≤ n → lgD v.2.1 j = lgD v'.2.1 j) ∧ (∀ y, y ≠ nI w → (opn (lgD v'.2.1) y (n + dep) ↔ opn (lgD v.2.1) y n) ∧ (opn (lgD v.2.1) y n → gon (lgD v'.2.1) y (n + dep) = gon (lgD v.2.1) y n)) ∧ pval v'.1 p = fv (lgD v.2.1) (fs (lgD v.2.1) (nI w) p (gon (lgD v.2.1) (nI w) n)) (pval v.1 p) := by
  intro dep
  induction dep with
  | zero =>
    intro v n i N hW hw ho hd
    obtain ⟨m1, m2, m3, m4, -⟩ := gon_ok n hW.2.1 _ ho
    obtain ⟨g1, g2⟩ := ga_1 hW.2.1 m1 (Nat.le_trans m2 (lst_le _ _ _)) m3 m4
    rcases m4 with k | k
    · have := g1 k; omega
    · have := (g2 k).1; omega
  | succ dep ih =>
    intro v n i N hW hw ho hd h1 h3
    obtain ⟨N, rfl⟩ : ∃ q, N = q + 1 := ⟨N - 1, by omega⟩
    have hV := hW.2.1
    obtain ⟨m1, m2, m3, m4, -⟩ := gon_ok n hV _ ho
    have hmn : gon (lgD v.2.1) (nI w) n ≤ n := Nat.le_trans m2 (lst_le _ _ _)
    obtain ⟨k', t1, t2⟩ := c_back hW hw ho
    have hvb := val_back (g := v.1) hV ho hp
    have hg : ∀ i, 1 ≤ i → i ≤ n → lgD v.2.1 i = lgD (addE v.2.1 n (backE (lgD v.2.1) n (nI w))) i := fun i a b => (lgD_old _ _ _ (by omega)).symm
    obtain ⟨b1, b2, b3⟩ := back_opn hV ho hg (lgD_new _ _ _)
    have hnk : nwk (lgD (addE v.2.1 n (backE (lgD v.2.1) n (nI w)))) (n + 1) = nwk (lgD v.2.1) n := by
      rw [nwk_n (by rw [lgD_new]; unfold backE; split; exact d20; exact d40), nwk_cg n hg]
    have eC : f_St_tearAllOpen_36 K (N + 1) (nI w) (nI (i + (dep + 1))) (nI i) v = f_St_tearAllOpen_36 K N (nI w) (nI (i + (dep + 1))) (nI (i + 1)) (pgB (lgD v.2.1) n (nI w) v.1, addE v.2.1 n (backE (lgD v.2.1) n (nI w)), k', v.2.2.2) := by
      rw [e_St_tearAllOpen_36, ob_lef (by omega) (by omega), t1, oc_s, kk1, i_add]
    have hga := ga_1 hV m1 hmn m3 m4
    obtain ⟨m0, hm0⟩ : ∃ q, gon (lgD v.2.1) (nI w) n = q + 1 := ⟨gon (lgD v.2.1) (nI w) n - 1, by omega⟩
    rw [eC]
    rcases m4 with k | k
    · obtain ⟨c1, c2⟩ := b2 k
      have : dep = 0 := by omega
      subst this
      have hf0 : fs (lgD v.2.1) (nI w) p (gon (lgD v.2.1) (nI w) n) = 0 := by
        have hz : lst (lgD v.2.1) (nI w) m0 = 0 := by
          have hv' := VL_at hV m1 hmn
          have := (vent_0 hv' k).1
          rw [m3, hm0, Nat.add_sub_cancel] at this
          rw [this]
          exact wk_new (VL_le hV (by omega))
        rw [hm0, fs_miss (fun q => by rw [← hm0] at q; exact d01 (k.symm.trans q.2.1)), fs_lst, hz]
        rfl
      refine ⟨_, ?_, t2, hnk, hg, b3, ?_⟩
      · obtain ⟨N, rfl⟩ : ∃ q, N = q + 1 := ⟨N - 1, by omega⟩
        rw [e_St_tearAllOpen_36, ob_let (by omega) (by omega), kk1, i_add]
      · rw [hf0]
        show pval (pgB (lgD v.2.1) n (nI w) v.1) p = _
        rw [hvb, if_neg (fun q => d01 (k.symm.trans q.1))]
        rfl
    · obtain ⟨c1, c2, c3⟩ := b1 k
      have e1 : i + 1 + dep = i + (dep + 1) := by omega
      have e2 : n + 1 + dep = n + (dep + 1) := by omega
      have hml : lst (lgD v.2.1) (nI w) (gon (lgD v.2.1) (nI w) n - 1) ≤ n := by
        have := lst_le (lgD v.2.1) (nI w) (gon (lgD v.2.1) (nI w) n - 1)
        omega
      obtain ⟨v', u1, u2, u3, u4, u5, u6⟩ := ih (pgB (lgD v.2.1) n (nI w) v.1, addE v.2.1 n (backE (lgD v.2.1) n (nI w)), k', v.2.2.2) (n + 1) (i + 1) N t2 (by show w < nwk (lgD (addE _ _ _)) _; rw [hnk]; exact hw) c1
        (by
          show ga (lgD (addE _ _ _)) _ (gon (lgD (addE _ _ _)) _ _) = _
          rw [c2, ← ga_cg (nI w) _ (fun i a b => hg i a (by omega))]
          omega) (by omega) (by omega)
      rw [e1] at u1
      rw [e2] at u2 u3 u5
      refine ⟨v', u1, u2, u3.trans hnk, fun j a b => (hg j a b).trans (u4 j a (by omega)), fun y hy => ?_, ?_⟩
      · obtain ⟨y1, y2⟩ := u5 y hy
        obtain ⟨z1, z2⟩ := b3 y hy
        exact ⟨y1.trans z1, fun o => (y2 (z1.mpr o)).trans (z2 o)⟩
      · have e3 : fs (lgD (addE v.2.1 n (backE (lgD v.2.1) n (nI w)))) (nI w) p (gon (lgD (addE v.2.1 n (backE (lgD v.2.1) n (nI w)))) (nI w) (n + 1)) = fs (lgD v.2.1) (nI w) p m0 := by
          rw [c2, ← fs_cg (nI w) p _ (fun i a b => hg i a (by omega)), ← fs_lst, hm0, Nat.add_sub_cancel]
        have hfl := fs_le (L := lgD v.2.1) (x := nI w) (p := p) m0
        refine u6.trans ?_
        show fv (lgD (addE v.2.1 n (backE (lgD v.2.1) n (nI w)))) (fs (lgD (addE v.2.1 n (backE (lgD v.2.1) n (nI w)))) (nI w) p (gon (lgD (addE v.2.1 n (backE (lgD v.2.1) n (nI w)))) (nI w) (n + 1))) (pval (pgB (lgD v.2.1) n (nI w) v.1) p) = _
        rw [e3, hvb]
        by_cases q0 : fs (lgD v.2.1) (nI w) p m0 = 0
        · rw [q0, fv_0]
          by_cases q1 : (lgD v.2.1 (gon (lgD v.2.1) (nI w) n)).2.2.2.1 = nI p
          · have ef : fs (lgD v.2.1) (nI w) p (gon (lgD v.2.1) (nI w) n) = gon (lgD v.2.1) (nI w) n := by
              rw [hm0] at m3 k q1 ⊢
              exact fs_hit q0 ⟨m3, k, q1⟩
            rw [if_pos ⟨k, q1⟩, ef]
            unfold fv
            rw [if_neg (by omega)]
          · have ef : fs (lgD v.2.1) (nI w) p (gon (lgD v.2.1) (nI w) n) = 0 := by
              rw [hm0] at q1 ⊢
              rw [fs_miss (fun q => q1 q.2.2)]
              exact q0
            rw [if_neg (fun q => q1 q.2), ef, fv_0]
        · have ef : fs (lgD v.2.1) (nI w) p (gon (lgD v.2.1) (nI w) n) = fs (lgD v.2.1) (nI w) p m0 := by
            rw [hm0]
            exact fs_old q0
          rw [ef]
          unfold fv
          rw [if_neg q0, if_neg q0, ← hg _ (by omega) (by omega)]
theorem wk_6 {L : Nat → E7} {n p : Nat} (hV : VL L n) : fs L (-6) p n = 0 := by
  by_cases h : fs L (-6) p n = 0
  · exact h
  · obtain ⟨a, -, -⟩ := fs_at n h
    have h1 := fs_le (L := L) (x := -6) (p := p) n
    obtain ⟨w, w1, w2⟩ := wk_of n hV _ (by omega) h1
    have h16 := nwk_16 n hV
    exact absurd (w2.symm.trans a) (m6_ne w (by omega))
noncomputable def fo (L : Nat → E7) (n p : Nat) : Nat → Nat → Int32 → Int32
  | _, 0, z => z
  | i, k + 1, z => fo L n p (i + 1) k (ob (opn L (nI i) n) (fv L (fs L (nI i) p n) z) z)
theorem fo_z {L : Nat → E7} {n p : Nat} : ∀ k i z, (∀ j, i ≤ j → j < i + k → opn L (nI j) n → fs L (nI j) p n = 0) → fo L n p i k z = z
  | 0, _, _, _ => rfl
  | k + 1, i, z, h => by
    show fo L n p (i + 1) k (ob (opn L (nI i) n) (fv L (fs L (nI i) p n) z) z) = z
    have e : ob (opn L (nI i) n) (fv L (fs L (nI i) p n) z) z = z := by
      by_cases o : opn L (nI i) n
      · rw [ob_t o, h i (by omega) (by omega) o, fv_0]
      · rw [ob_f o]
    rw [e]
    exact fo_z k (i + 1) z (fun j a b => h j (by omega) (by omega))
theorem fo_fw {L : Nat → E7} {n p : Nat} (hV : VL L n) (hp : p < 8) : ∀ k i z, i + k ≤ nwk L n → fo L n p i k z = fv L (fs L (fw (hol L n p) i k) p n) z
  | 0, i, z, _ => by
    show z = fv L (fs L (-6) p n) z
    rw [wk_6 hV, fv_0]
  | k + 1, i, z, hk => by
    have h16 := nwk_16 n hV
    show fo L n p (i + 1) k (ob (opn L (nI i) n) (fv L (fs L (nI i) p n) z) z) = _
    unfold fw
    by_cases q : hol L n p i
    · rw [ob_t q.1, ob_t q]
      have hw := (pgs_bt hp n hV).mp q.2
      refine fo_z k (i + 1) _ (fun j a b o => ?_)
      by_cases h : fs L (nI j) p n = 0
      · exact h
      · exact absurd hw (fun hw => excl n hV (nI j) (nI i) (nI p) (fun e => by have := i_inj (a := j) (b := i) (by omega) (by omega) e; omega) o q.1 ((fs_wr n).mp h) hw)
    · have e : ob (opn L (nI i) n) (fv L (fs L (nI i) p n) z) z = z := by
        by_cases o : opn L (nI i) n
        · have : fs L (nI i) p n = 0 := by
            by_cases h : fs L (nI i) p n = 0
            · exact h
            · exact absurd ⟨o, (pgs_bt hp n hV).mpr ((fs_wr n).mp h)⟩ q
          rw [ob_t o, this, fv_0]
        · rw [ob_f o]
      rw [e, ob_f q]
      exact fo_fw hV hp k (i + 1) z (by omega)
theorem tearAll {L : Nat → E7} {n p : Nat} (hV : VL L n) (hp : p < 8) (hnob : ∀ x, opn L x n → nob L x n) : ∀ (k i N : Nat) (v : V_St) (n2 : Nat), i + k = nwk L n → k < N → WFL v n2 → n ≤ n2 → nwk (lgD v.2.1) n2 = nwk L n → (∀ j, 1 ≤ j → j ≤ n → L j = lgD v.2.1 j) → (∀ j, i ≤ j → j < nwk L n → (opn (lgD v.2.1) (nI j) n2 ↔ opn L (nI j) n) ∧ (opn L (nI j) n → gon (lgD v.2.1) (nI j) n2 = gon L (nI j) n)) → ∃ v', f_St_tearAllOpen_2 N (nI i) v = some v' ∧ pval v'.1 p = fo L n p i k (pval v.1 p) := by
  have h16 := nwk_16 n hV
  have h300 := VL_300 hV
  intro k
  induction k with
  | zero =>
    intro i N v n2 hi hN hW hn hk hg ho
    obtain ⟨N, rfl⟩ : ∃ q, N = q + 1 := ⟨N - 1, by omega⟩
    refine ⟨v, ?_, rfl⟩
    rw [e_St_tearAllOpen_2, hW.2.2.1, hk, ob_let (by omega) (by omega)]
  | succ k ih =>
    intro i N v n2 hi hN hW hn hk hg ho
    obtain ⟨N, rfl⟩ : ∃ q, N = q + 1 := ⟨N - 1, by omega⟩
    obtain ⟨o1, o2⟩ := ho i (Nat.le_refl _) (by omega)
    have hFU : FU = 19999 + 1 := rfl
    by_cases o : opn L (nI i) n
    · have o' := o1.mpr o
      have eg := o2 o
      have hgn : gon L (nI i) n ≤ n := Nat.le_trans (gon_ok n hV _ o).2.1 (lst_le _ _ _)
      have hga := ga_le (lgD v.2.1) (nI i) (gon (lgD v.2.1) (nI i) n2)
      obtain ⟨v', u1, u2, u3, u4, u5, u6⟩ := tearC (w := i) hp (f_St_tearAllOpen_2 N) (ga (lgD v.2.1) (nI i) (gon (lgD v.2.1) (nI i) n2)) v n2 0 FU hW (by omega) o' rfl (by rw [eg] at hga ⊢; unfold FU; omega) (by rw [eg] at hga ⊢; omega)
      obtain ⟨v2, x1, x2⟩ := ih (i + 1) N v' _ (by omega) (by omega) u2 (by omega) (u3.trans hk) (fun j a b => (hg j a b).trans (u4 j a (by omega))) (fun j a b => by
        obtain ⟨y1, y2⟩ := ho j (by omega) b
        have hne : nI j ≠ nI i := fun e => by have := i_inj (a := j) (b := i) (by omega) (by omega) e; omega
        obtain ⟨z1, z2⟩ := u5 (nI j) hne
        exact ⟨z1.trans y1, fun q => (z2 (y1.mpr q)).trans (y2 q)⟩)
      refine ⟨v2, ?_, ?_⟩
      · rw [e_St_tearAllOpen_2, hW.2.2.1, hk, ob_lef (by omega) (by omega), c_wopen hW.2.2 hW.2.1 (by omega) o', oc_s, ob_f d10, c_steps hW (by omega) o', oc_s]
        rw [Nat.zero_add] at u1
        exact u1.trans x1
      · rw [x2, u6]
        show _ = fo L n p (i + 1) k (ob (opn L (nI i) n) (fv L (fs L (nI i) p n) (pval v.1 p)) (pval v.1 p))
        have e1 : gon L (nI i) n = lst L (nI i) n := by
          unfold gon
          rw [if_neg]
          rcases hnob _ o with q | q <;> rw [q] <;> decide
        have e2 : fs (lgD v.2.1) (nI i) p (gon (lgD v.2.1) (nI i) n2) = fs L (nI i) p n := by
          rw [eg, ← fs_cg (nI i) p _ (fun j a b => hg j a (by omega)), e1, ← fs_lst]
        have e3 : ∀ z, fv (lgD v.2.1) (fs L (nI i) p n) z = fv L (fs L (nI i) p n) z := fun z => by
          have h5 := fs_le (L := L) (x := nI i) (p := p) n
          by_cases q : fs L (nI i) p n = 0
          · rw [q, fv_0, fv_0]
          · unfold fv
            rw [if_neg q, if_neg q, hg _ (by omega) h5]
        rw [ob_t o, e2, e3]
    · have o' : ¬ opn (lgD v.2.1) (nI i) n2 := fun z => o (o1.mp z)
      obtain ⟨v2, x1, x2⟩ := ih (i + 1) N v n2 (by omega) (by omega) hW hn hk hg (fun j a b => ho j (by omega) b)
      refine ⟨v2, ?_, ?_⟩
      · rw [e_St_tearAllOpen_2, hW.2.2.1, hk, ob_lef (by omega) (by omega), c_wopenN hW.2.2 hW.2.1 (by omega) o', oc_s, ob_rfl, hFU, e_St_tearAllOpen_36, k0, ob_let (by omega) (by omega), kk1, i_add]
        exact x1
      · rw [x2]
        show _ = fo L n p (i + 1) k (ob (opn L (nI i) n) (fv L (fs L (nI i) p n) (pval v.1 p)) (pval v.1 p))
        rw [ob_f o]
theorem r_settle {f : Nat → Int32} {g : V_Pg} {n p : Nat} (hn : f 57 = nI n) (h3 : n ≤ 300) (hP : PGR g f) (hp : p < 8) {M : V_Md} (hM : M.1 = f) (x : Int32) : f_Md_settled_34 FU (nI p) x 1 M = some (fv (lgR f) (fs (lgR f) x p n) (pval g p)) := by
  have key : ∀ j i m, i + j = n → j < m → fs (lgR f) x p i = 0 → f_Md_settled_34 m (nI p) x (nI (i + 1)) M = some (fv (lgR f) (fs (lgR f) x p n) (pval g p)) := by
    intro j
    induction j with
    | zero =>
      intro i m hi hm h0
      obtain ⟨m, rfl⟩ : ∃ q, m = q + 1 := ⟨m - 1, by omega⟩
      have : i = n := by omega
      subst this
      rw [e_Md_settled_34, k57, og_in (by omega) (by omega), i_cl (by omega), hM, hn, ob_ltt (by omega) (by omega), r_value hp hP, oc_s, h0, fv_0]
    | succ j ih =>
      intro i m hi hm h0
      obtain ⟨m, rfl⟩ : ∃ q, m = q + 1 := ⟨m - 1, by omega⟩
      have e0 : nI (67 + 7 * (i + 1 - 1)) + 0 = nI (67 + 7 * (i + 1 - 1) + 0) := by rw [k0, i_add]
      have e1 : nI (67 + 7 * (i + 1 - 1)) + 1 = nI (67 + 7 * (i + 1 - 1) + 1) := by rw [kk1, i_add]
      have e2 : nI (i + 1) + 1 = nI (i + 1 + 1) := by rw [kk1, i_add]
      have e3 : nI (67 + 7 * (i + 1 - 1)) + 3 = nI (67 + 7 * (i + 1 - 1) + 3) := by rw [k3, i_add]
      have e4 : nI (67 + 7 * (i + 1 - 1)) + 4 = nI (67 + 7 * (i + 1 - 1) + 4) := by rw [k4, i_add]
      have x0 : f (67 + 7 * (i + 1 - 1) + 0) = (lgR f (i + 1)).1 := rfl
      have x1 : f (67 + 7 * (i + 1 - 1) + 1) = (lgR f (i + 1)).2.1 := rfl
      have x3 : f (67 + 7 * (i + 1 - 1) + 3) = (lgR f (i + 1)).2.2.2.1 := rfl
      have x4 : f (67 + 7 * (i + 1 - 1) + 4) = (lgR f (i + 1)).2.2.2.2.1 := rfl
      have hd : f_Md_settled_34 (m + 1) (nI p) x (nI (i + 1)) M = ob ((lgR f (i + 1)).2.1 = x) (ob ((lgR f (i + 1)).1 = 1) (ob ((lgR f (i + 1)).2.2.2.1 = nI p) (some (lgR f (i + 1)).2.2.2.2.1) (f_Md_settled_34 m (nI p) x (nI (i + 1 + 1)) M)) (f_Md_settled_34 m (nI p) x (nI (i + 1 + 1)) M)) (f_Md_settled_34 m (nI p) x (nI (i + 1 + 1)) M) := by
        rw [e_Md_settled_34, k57, og_in (by omega) (by omega), i_cl (by omega), hM, hn, ob_ltf (by omega) (by omega), r_at (by omega), oc_s, e1, og_in (by omega) (by omega), i_cl (by omega), x1, oc_s, e0, og_in (by omega) (by omega), i_cl (by omega), x0, oc_s, e3, og_in (by omega) (by omega), i_cl (by omega), x3, oc_s, e4, og_in (by omega) (by omega), i_cl (by omega), x4, e2]
      rw [hd]
      by_cases q : (lgR f (i + 1)).2.1 = x ∧ (lgR f (i + 1)).1 = 1 ∧ (lgR f (i + 1)).2.2.2.1 = nI p
      · have h1 := fs_hit h0 q
        have hm : ∀ k, i + 1 ≤ k → fs (lgR f) x p k = i + 1 := by
          intro k hk
          induction k with
          | zero => omega
          | succ k ihk =>
            by_cases e : k = i
            · subst e; exact h1
            · have := ihk (by omega)
              rw [fs_old (by omega)]
              exact this
        rw [ob_t q.1, ob_t q.2.1, ob_t q.2.2, hm n (by omega)]
        unfold fv
        rw [if_neg (by omega)]
      · have ih' := ih (i + 1) m (by omega) (by omega) (by rw [fs_miss q]; exact h0)
        by_cases z1 : (lgR f (i + 1)).2.1 = x
        · by_cases z2 : (lgR f (i + 1)).1 = 1
          · rw [ob_t z1, ob_t z2, ob_f (fun z3 => q ⟨z1, z2, z3⟩)]
            exact ih'
          · rw [ob_t z1, ob_f z2]
            exact ih'
        · rw [ob_f z1]
          exact ih'
  exact key n 0 FU (by omega) (by unfold FU; omega) rfl
theorem s_settled {V : V_Fd} {f : Nat → Int32} {n s : Nat} (I : INV V.1 n s) (R : REL V.1 f n s) {M : V_Md} (hM : M.1 = f) (x : Int32) : ∃ a w, f_Fd_settled x V = some (a, (V.1, w, V.2.2)) ∧ f_Md_settled x M = some a := by
  have r4 := R.2.2.2.1
  have i5 := I.2.2.2.2.1
  rcases pg_arg x with ⟨p, hp, rfl⟩ | ⟨a1, a2⟩
  rotate_left
  · refine ⟨-1, V.2.1, ?_, ?_⟩
    · unfold f_Fd_settled; rw [a1, oc_s, ob_rfl]
    · unfold f_Md_settled; rw [a2, oc_s, ob_rfl]
  by_cases c0 : mdg V.1 = 0
  rotate_left
  · refine ⟨-5, V.2.1, ?_, ?_⟩
    · unfold f_Fd_settled; rw [c_isPage hp, oc_s, ob_f d10, ob_f c0]
    · unfold f_Md_settled; rw [r_isPage hp, oc_s, ob_f d10, k59, og_in (by omega) (by omega), i_cl (by omega), hM, ob_t (show f 59 = 1 by rw [r4]; exact i5.resolve_left c0)]
  obtain ⟨t, b1, b2⟩ := c_become V.2.1 I
  have It := INV_alk b2 I
  have Rt := REL_alk b2 I R
  have em : mdg t = mdg V.1 := congrArg (fun z => z.1) b2.2.2.2.2.2.2.2
  obtain ⟨hW, -, -, -, -, -, hnb, -⟩ := It
  obtain ⟨hRL, hP, -⟩ := Rt
  have hV := hW.2.1
  have h300 := VL_300 hV
  have hR := RL_R hV hRL
  obtain ⟨l1, l2, l3, l4⟩ := id hRL
  obtain ⟨v', u1, u2⟩ := tearAll hV hp (hnb (em.trans c0)) (nwk (lgD t.2.1) n) 0 FU t n (by omega) (by have := nwk_16 n hV; unfold FU; omega) hW (Nat.le_refl _) rfl (fun j _ _ => rfl) (fun j _ _ => ⟨Iff.rfl, fun _ => rfl⟩)
  refine ⟨pval v'.1 p, (tkh v'.1 p, v'.2), ?_, ?_⟩
  · unfold f_Fd_settled
    rw [c_isPage hp, oc_s, ob_f d10, ob_t c0, b1, oc_s]
    have u1' : f_St_tearAllOpen t = some v' := u1
    have hh : hnd (tkh v'.1 p) p := by
      unfold tkh
      by_cases q : hnd v'.1 p
      · rw [ob_t q]; exact q
      · rw [ob_f q]; exact (chg_h hp hp _ _ _).mpr (Or.inr rfl)
    rw [u1', oc_s, c_take hp, oc_s]
    show oc (f_Pg_valueInHand (nI p) (tkh v'.1 p)) _ = _
    rw [c_valH hp hh, oc_s]
  · have e1 : fw (hol (lgR f) n p) 0 (nwk (lgR f) n) = fw (hol (lgD t.2.1) n p) 0 (nwk (lgD t.2.1) n) := by
      rw [← nwk_cg n l1]
      refine fw_cg _ _ (fun i a b => ?_)
      unfold hol
      rw [opn_cg l1, pgs_cg (nI i) n l1]
    unfold f_Md_settled
    rw [r_isPage hp, oc_s, ob_f d10, k59, og_in (by omega) (by omega), i_cl (by omega), hM, ob_f (show ¬ f 59 = 1 by rw [r4, c0]; exact d01), r_holder hR hp, oc_s, r_settle l2 h300 hP hp hM, e1, u2, fo_fw hV hp _ _ _ (by omega), fs_cg _ p n l1]
    have h5 := fs_le (L := lgR f) (x := fw (hol (lgD t.2.1) n p) 0 (nwk (lgD t.2.1) n)) (p := p) n
    by_cases q : fs (lgR f) (fw (hol (lgD t.2.1) n p) 0 (nwk (lgD t.2.1) n)) p n = 0
    · rw [q, fv_0, fv_0]
    · unfold fv
      rw [if_neg q, if_neg q, l1 _ (by omega) h5]

/-! ===== PURE 25: longs by their bytes ===== -/
abbrev s8 (l : Int64) : Int64 := (l.toUInt64 >>> ((8 : Int32).toInt64.toUInt64 &&& Int64.toUInt64 63)).toInt64
theorem s8_nat (l : Int64) : (s8 l).toUInt64.toNat = l.toUInt64.toNat / 256 := by
  have e : ((8 : Int32).toInt64.toUInt64 &&& Int64.toUInt64 63).toNat % 64 = 8 := by decide
  show l.toUInt64.toNat >>> (((8 : Int32).toInt64.toUInt64 &&& Int64.toUInt64 63).toNat % 64) = _
  rw [e, Nat.shiftRight_eq_div_pow]
theorem n_0 (l : Int64) : l = 0 ↔ l.toUInt64.toNat = 0 := by
  constructor
  · rintro rfl
    rfl
  · intro h
    exact Int64.toBitVec_inj.mp (BitVec.eq_of_toNat_eq h)
theorem by_all (l : Int64) : ∃ r : Nat, r < 256 ∧ r = l.toUInt64.toNat % 256 ∧ l &&& 255 = (nI r).toInt64 := by
  refine ⟨l.toUInt64.toNat % 256, Nat.mod_lt _ (by omega), rfl, ?_⟩
  have h1 : (l &&& 255).toBitVec.toNat = l.toUInt64.toNat % 256 := by
    show (l.toBitVec &&& (255#64)).toNat = l.toBitVec.toNat % 2 ^ 8
    rw [BitVec.toNat_and]
    exact Nat.and_two_pow_sub_one_eq_mod _ 8
  have h2 : l.toUInt64.toNat % 256 < 256 := Nat.mod_lt _ (by omega)
  apply Int64.toInt_inj.mp
  rw [Int32.toInt_toInt64, i_tI (by omega)]
  show (l &&& 255).toBitVec.toInt = _
  rw [BitVec.toInt_eq_toNat_of_lt (by omega), h1]
theorem r_in33 {r : Nat} (h : r < 256) : (33 ≤ r ∧ r ≤ 126 → f_Md_in (nI r).toInt64 33 126 = some 1) ∧ (¬ (33 ≤ r ∧ r ≤ 126) → f_Md_in (nI r).toInt64 33 126 = some 0) := by
  constructor
  · intro q
    refine r_in ?_
    rw [i_tI (by omega)]
    exact ⟨by show (33 : Int) ≤ _; omega, by show _ ≤ (126 : Int); omega⟩
  · intro q
    refine r_inN ?_
    rw [i_tI (by omega)]
    rintro ⟨a, b⟩
    have : (33 : Int) ≤ (r : Int) := a
    have : (r : Int) ≤ 126 := b
    omega
/-- how many characters; the reference's way with them -/
theorem chars {x : Int64} {M : V_Md} : ∀ (j k : Nat) (l : Int64) (N1 N2 : Nat), k + j = 8 → j < N1 → j < N2 → l.toUInt64.toNat < 256 ^ j → ∃ c : Nat, c ≤ 8 ∧ f_Fd_charactersIn_5 N1 l (nI k) = some (nI c) ∧ (c = 0 → f_Md_put_5 N2 x (nI k) l M = some (-2, M)) ∧ (1 ≤ c → f_Md_put_5 N2 x (nI k) l M = ob ((M.2.2.2.2.2.2.2.1 + nI c) ≤ (80 : Int32)) (f_Md_put_89 FU x (nI (c - 1)) M) (some ((-4 : Int32), M))) := by
  have h56 : ∀ (k : Nat) (l : Int64), k ≤ 8 → (k = 0 → f_Md_put_56 x (nI k) l M = some (-2, M)) ∧ (1 ≤ k → ¬ l = 0 → f_Md_put_56 x (nI k) l M = some (-2, M)) ∧ (1 ≤ k → l = 0 → f_Md_put_56 x (nI k) l M = ob ((M.2.2.2.2.2.2.2.1 + nI k) ≤ (80 : Int32)) (f_Md_put_89 FU x (nI (k - 1)) M) (some ((-4 : Int32), M))) := by
    intro k l hk
    have e1 : ∀ h : 1 ≤ k, nI k - (1 : Int32) = nI (k - 1) := fun h => by rw [kk1, i_sub h]
    have e0 : 1 ≤ k → ¬ nI k = (0 : Int32) := fun h q => by
      have := i_inj (a := k) (b := 0) (by omega) (by omega) q
      omega
    refine ⟨fun h => ?_, fun h1 h2 => ?_, fun h1 h2 => ?_⟩
    · unfold f_Md_put_56
      subst h
      exact ob_t rfl
    · unfold f_Md_put_56
      rw [ob_f (e0 h1), ob_f (fun q => h2 ((lg_cmp_eq _ _).mp q))]
    · unfold f_Md_put_56
      rw [ob_f (e0 h1), ob_t ((lg_cmp_eq _ _).mpr h2), e1 h1]
  intro j
  induction j with
  | zero =>
    intro k l N1 N2 hk h1 h2 hl
    obtain ⟨N1, rfl⟩ : ∃ q, N1 = q + 1 := ⟨N1 - 1, by omega⟩
    obtain ⟨N2, rfl⟩ : ∃ q, N2 = q + 1 := ⟨N2 - 1, by omega⟩
    have : k = 8 := by omega
    subst this
    have hl0 : l = 0 := (n_0 l).mpr (by simpa using hl)
    refine ⟨8, by omega, ?_, fun q => by omega, fun _ => ?_⟩
    · rw [e_Fd_charactersIn_5, k8, ob_let (by omega) (by omega)]
    · rw [e_Md_put_5, k8, ob_let (by omega) (by omega)]
      exact (h56 8 l (by omega)).2.2 (by omega) hl0
  | succ j ih =>
    intro k l N1 N2 hk h1 h2 hl
    obtain ⟨N1, rfl⟩ : ∃ q, N1 = q + 1 := ⟨N1 - 1, by omega⟩
    obtain ⟨N2, rfl⟩ : ∃ q, N2 = q + 1 := ⟨N2 - 1, by omega⟩
    obtain ⟨r, r1, r2, r3⟩ := by_all l
    have ek : nI k + 1 = nI (k + 1) := by rw [kk1, i_add]
    have c8 : ¬ (8 : Int32) ≤ nI k := by
      rw [k8]
      exact nI_ge (by omega) (by omega)
    have hC : f_Fd_charactersIn_5 (N1 + 1) l (nI k) = ob ((lg_cmp l (0 : Int64)) = 0) (some (nI k)) (ob (nI r < (33 : Int32)) (some (0 : Int32)) (ob (nI r ≤ (126 : Int32)) (f_Fd_charactersIn_5 N1 (s8 l) (nI (k + 1))) (some (0 : Int32)))) := by
      rw [e_Fd_charactersIn_5, ob_f c8, r3, lg_l2i_i2l, ek]
    have hR : f_Md_put_5 (N2 + 1) x (nI k) l M = ob ((lg_cmp (nI r).toInt64 (0 : Int64)) = 0) (f_Md_put_56 x (nI k) l M) (oc (f_Md_in (nI r).toInt64 (33 : Int64) (126 : Int64)) (fun q_34 => ob (q_34 = 0) (some ((-2 : Int32), M)) (f_Md_put_5 N2 x (nI (k + 1)) (s8 l) M))) := by
      rw [e_Md_put_5, ob_f c8, r3, ek]
    have hr0 : (lg_cmp (nI r).toInt64 (0 : Int64)) = 0 ↔ r = 0 := by
      rw [lg_cmp_eq, ← Int64.toInt_inj, Int32.toInt_toInt64, i_tI (by omega)]
      show (r : Int) = 0 ↔ r = 0
      omega
    have e33 : (33 : Int32) = nI 33 := rfl
    have e126 : (126 : Int32) = nI 126 := rfl
    obtain ⟨p1, p2, p3⟩ := h56 k l (by omega)
    rw [hC, hR]
    by_cases hl0 : l = 0
    · have hr : r = 0 := by
        have := (n_0 l).mp hl0
        omega
      rw [ob_t ((lg_cmp_eq _ _).mpr hl0), ob_t (hr0.mpr hr)]
      exact ⟨k, by omega, rfl, p1, fun h => p3 h hl0⟩
    · rw [ob_f (fun q => hl0 ((lg_cmp_eq _ _).mp q))]
      by_cases hg : 33 ≤ r ∧ r ≤ 126
      · obtain ⟨c, x1, x2, x3, x4⟩ := ih (k + 1) (s8 l) N1 N2 (by omega) (by omega) (by omega) (by
          rw [s8_nat]
          rw [Nat.pow_succ] at hl
          omega)
        rw [e33, e126, ob_ltf (by omega) (by omega), ob_let (by omega) (by omega), ob_f (fun q => by have := hr0.mp q; omega), (r_in33 r1).1 hg, oc_s, ob_f d10]
        exact ⟨c, x1, x2, x3, x4⟩
      · refine ⟨0, by omega, ?_, fun _ => ?_, fun h => by omega⟩
        · rw [e33, e126]
          by_cases z : r < 33
          · rw [ob_ltt z (by omega)]
            rfl
          · rw [ob_ltf (by omega) (by omega), ob_lef (by omega) (by omega)]
            rfl
        · by_cases z : r = 0
          · rw [ob_t (hr0.mpr z)]
            by_cases k00 : k = 0
            · exact p1 k00
            · exact p2 (by omega) hl0
          · rw [ob_f (fun q => z (hr0.mp q)), (r_in33 r1).2 hg, oc_s, ob_rfl]

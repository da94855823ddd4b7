/-! ===== the law from its entry ===== -/
theorem LT_of {w : Cond} (i : Nat) (h : tables_1[i]? = some w) : w ∈ lw_tbl := List.mem_append_right _ (List.mem_of_getElem? h)
theorem arr_of {s : State} {args : Array Value} {ty : FieldType} (h : (Cond.arrayClass ty).before args s = true) : ∃ cA : ClassId, ArrOfT s cA ty ∧ s.vm.findClass ("[" ++ ty.toString) = some cA := by
  obtain ⟨cA, kA, comp, h1, h2, h3⟩ := Cond.arrayClass_spec h
  exact ⟨cA, fun N z => ⟨(fun k q => by cases q), kA, h2, comp, h3⟩, h1⟩
theorem arr_ofS {s : State} {C : String} (h : va_AO C s) : ∃ cA : ClassId, ArrOfT s cA (.object C) ∧ va_RA s cA (.object C) := by
  obtain ⟨comp, cA, kA, h1, h2, h3, h4, h5⟩ := Cond.arrayOver_spec h
  exact ⟨cA, fun N z => ⟨(fun k q => by cases q), kA, h3, comp, h4⟩, kA, comp, h3, h4, h1, h5⟩
theorem nw_of {s : State} {args : Array Value} (hts : ∀ w ∈ lw_tbl, w.before args s = true) : NW s := by
  refine ⟨?_, ?_, va_AO.of (hts _ (LT_of 153 (by decide +kernel)))⟩
  · unfold nsF
    exact (List.forall_mem_cons.mpr ⟨va_Nw.of rfl (hts _ (LT_of 64 (by decide +kernel))), (List.forall_mem_cons.mpr ⟨va_Nw.of rfl (hts _ (LT_of 65 (by decide +kernel))), (List.forall_mem_cons.mpr ⟨va_Nw.of rfl (hts _ (LT_of 66 (by decide +kernel))), (List.forall_mem_cons.mpr ⟨va_Nw.of rfl (hts _ (LT_of 68 (by decide +kernel))), (List.forall_mem_cons.mpr ⟨va_Nw.of rfl (hts _ (LT_of 100 (by decide +kernel))), (List.forall_mem_cons.mpr ⟨va_Nw.of rfl (hts _ (LT_of 115 (by decide +kernel))), (List.forall_mem_cons.mpr ⟨va_Nw.of rfl (hts _ (LT_of 117 (by decide +kernel))), (List.forall_mem_cons.mpr ⟨va_Nw.of rfl (hts _ (LT_of 119 (by decide +kernel))), (List.forall_mem_cons.mpr ⟨va_Nw.of rfl (hts _ (LT_of 121 (by decide +kernel))), (fun _ z => absurd z List.not_mem_nil)⟩)⟩)⟩)⟩)⟩)⟩)⟩)⟩)⟩)
  · unfold nsM
    exact (List.forall_mem_cons.mpr ⟨va_Nw.of rfl (hts _ (LT_of 23 (by decide +kernel))), (List.forall_mem_cons.mpr ⟨va_Nw.of rfl (hts _ (LT_of 29 (by decide +kernel))), (List.forall_mem_cons.mpr ⟨va_Nw.of rfl (hts _ (LT_of 52 (by decide +kernel))), (List.forall_mem_cons.mpr ⟨va_Nw.of rfl (hts _ (LT_of 90 (by decide +kernel))), (List.forall_mem_cons.mpr ⟨va_Nw.of rfl (hts _ (LT_of 154 (by decide +kernel))), (List.forall_mem_cons.mpr ⟨va_Nw.of rfl (hts _ (LT_of 167 (by decide +kernel))), (List.forall_mem_cons.mpr ⟨va_Nw.of rfl (hts _ (LT_of 178 (by decide +kernel))), (List.forall_mem_cons.mpr ⟨va_Nw.of rfl (hts _ (LT_of 192 (by decide +kernel))), (List.forall_mem_cons.mpr ⟨va_Nw.of rfl (hts _ (LT_of 311 (by decide +kernel))), (List.forall_mem_cons.mpr ⟨va_Nw.of rfl (hts _ (LT_of 326 (by decide +kernel))), (List.forall_mem_cons.mpr ⟨va_Nw.of rfl (hts _ (LT_of 332 (by decide +kernel))), (List.forall_mem_cons.mpr ⟨va_Nw.of rfl (hts _ (LT_of 502 (by decide +kernel))), (List.forall_mem_cons.mpr ⟨va_Nw.of rfl (hts _ (LT_of 534 (by decide +kernel))), (List.forall_mem_cons.mpr ⟨va_Nw.of rfl (hts _ (LT_of 564 (by decide +kernel))), (List.forall_mem_cons.mpr ⟨va_Nw.of rfl (hts _ (LT_of 687 (by decide +kernel))), (List.forall_mem_cons.mpr ⟨va_Nw.of rfl (hts _ (LT_of 732 (by decide +kernel))), (List.forall_mem_cons.mpr ⟨va_Nw.of rfl (hts _ (LT_of 733 (by decide +kernel))), (fun _ z => absurd z List.not_mem_nil)⟩)⟩)⟩)⟩)⟩)⟩)⟩)⟩)⟩)⟩)⟩)⟩)⟩)⟩)⟩)⟩)⟩)
set_option maxHeartbeats 4000000 in
theorem vk_of {s : State} {args : Array Value} (hts : ∀ w ∈ lw_tbl, w.before args s = true) : ∃ G : GG, va_K G.1 vwCl (tysG G) s := by
  have htsB : ∀ q ∈ TB, q.before args s = true := fun q hq => hts q (List.mem_filter.mp hq).1
  obtain ⟨c0, i0, K0⟩ := u_known (C := R_Dy) (T := T_Dy) (N := 9) (n := 9) htsB in_Dy (htsB _ k_51)
  obtain ⟨c1, i1, K1⟩ := u_known (C := R_Hi) (T := T_Hi) (N := 3) (n := 3) htsB in_Hi (htsB _ k_147)
  obtain ⟨c2, i2, K2⟩ := u_known (C := R_Or) (T := T_Or) (N := 7) (n := 7) htsB in_Or (htsB _ k_191)
  obtain ⟨c3, i3, K3⟩ := u_known (C := R_Pd) (T := T_Pd) (N := 2) (n := 2) htsB in_Pd (htsB _ k_177)
  obtain ⟨c4, i4, K4⟩ := u_known (C := R_Pg) (T := T_Pg) (N := 5) (n := 5) htsB in_Pg (htsB _ k_28)
  obtain ⟨c5, i5, K5⟩ := u_known (C := R_Sl) (T := T_Sl) (N := 1) (n := 1) htsB in_Sl (htsB _ k_166)
  obtain ⟨c6, i6, K6⟩ := u_known (C := R_St) (T := T_St) (N := 9) (n := 9) htsB in_St (htsB _ k_22)
  obtain ⟨c7, i7, K7⟩ := u_known (C := R_Wk) (T := T_Wk) (N := 6) (n := 6) htsB in_Wk (htsB _ k_89)
  obtain ⟨c8, i8, K8⟩ := u_known (C := R_Fd) (T := T_Fd) (N := 6) (n := 6) htsB in_Fd (htsB _ k_14)
  obtain ⟨c9, i9, K9⟩ := u_known (C := R_Md) (T := T_Md) (N := 9) (n := 9) htsB in_Md (htsB _ k_748)
  obtain ⟨ai, hi1, hi2⟩ := arr_of (htsB _ k_49)
  obtain ⟨ac, hc1, hc2⟩ := arr_of (htsB _ k_189)
  obtain ⟨az, hz1, hz2⟩ := arr_of (htsB _ k_781)
  obtain ⟨aS, hS1, hS2⟩ := arr_ofS (va_AO.of (C := "FloodDiary$State") (hts _ (LT_of 153 (by decide +kernel))))
  obtain ⟨dC, dI, hKc⟩ : ∃ (dC : Nat → ClassId) (dI : Nat → Nat → Nat), ∀ (k : Nat) (q : vw_C), vwCl[k]? = some q → u_Kn s q.1 q.2.1 q.2.2 (dC k) (dI k) := by
    refine ⟨fun k => match k with | 0 => c0 | 1 => c1 | 2 => c2 | 3 => c3 | 4 => c4 | 5 => c5 | 6 => c6 | 7 => c7 | 8 => c8 | _ => c9, fun k => match k with | 0 => i0 | 1 => i1 | 2 => i2 | 3 => i3 | 4 => i4 | 5 => i5 | 6 => i6 | 7 => i7 | 8 => i8 | _ => i9, ?_⟩
    intro k q hq
    match k, hq with
    | 0, hq => cases hq; exact K0
    | 1, hq => cases hq; exact K1
    | 2, hq => cases hq; exact K2
    | 3, hq => cases hq; exact K3
    | 4, hq => cases hq; exact K4
    | 5, hq => cases hq; exact K5
    | 6, hq => cases hq; exact K6
    | 7, hq => cases hq; exact K7
    | 8, hq => cases hq; exact K8
    | 9, hq => cases hq; exact K9
    | k + 10, hq => cases hq
  refine ⟨((dC, dI), ai, ac, az, aS), hKc, fun k q hq => ?_⟩
  match k, hq with
  | 0, hq => cases hq; exact ⟨hi1, hi2⟩
  | 1, hq => cases hq; exact ⟨hc1, hc2⟩
  | 2, hq => cases hq; exact ⟨hz1, hz2⟩
  | 3, hq => cases hq; exact ⟨hS1, hS2⟩
  | k + 4, hq => cases hq
set_option maxHeartbeats 4000000 in
set_option maxRecDepth 100000 in
theorem whole_start {p : Program} {e : Env} {s : State} {m : MethodId} {below : List Frame} {meth : Method} {c : Code} (l : Launch) (hflags : l.flags = flags0) {b L : Nat} {xs : Nat → Int32} (hL : L ≤ 2048) (C0 : lw_At p s m meth c b L xs) : W p l e room_1 s m #[Value.ref b] below meth c s.heap [] 0 0 (lw_Z below #[Value.ref b] s) (entryFrame m ([Value.ref b] : List Value).toArray 4) := by
  obtain ⟨hx, hb, hr, hml, hown0, hts0, hX, hbl, hlocks, hgv⟩ := C0
  have hown : s.vm.findClass "FloodDiaryLaw" = some m.cls := hown0
  have hts : ∀ q ∈ TB, q.before #[Value.ref b] s = true := fun q hq => hts0 q (List.mem_filter.mp hq).1
  have hN : NW s := nw_of hts0
  obtain ⟨G, hK⟩ := vk_of hts0
  have Z : CX p s m c b L xs G := ⟨hx, hb, hml, hown, hts, hX, hbl, hK, hN⟩
  have hA : ∀ q : Nat, s.heap.size ≤ q → AA s q := fun _ z => z
  have hS : va_S (AA s) s.heap s.heap [] := va_S.rf
  have hP : va_P G.1 vwCl [] s.heap := fun k q z => by simp at z
  have hD : va_D (AA s) [] := ⟨fun i j p q z => by simp at z, fun k q z => by simp at z⟩
  have hl := lv_entry ([.ref b]) (n := 4) (Nat.le_of_ble_eq_true rfl)
  rw [lg_entry_eq]
  generalize (lg_sl ([.ref b]) ++ List.replicate (4 - (lg_sl ([.ref b])).length) Slot.unset).toArray = ls at hl ⊢
  have hl : lv_has ls 4 [(0, .ref b)] := hl
  refine va_new (ci := 8) (fs := [.null, .null, .null, .null, .null, .null]) (C := R_Fd) (T := T_Fd) (N := 6) hx hb hts in_Fd ty_Fd ty_Fd_ok hown (hts _ k_13) (hts _ k_14) (hts _ k_1) hK hP hD hS hA rfl (fun j hj => by rcases (show j = 0 ∨ j = 1 ∨ j = 2 ∨ j = 3 ∨ j = 4 ∨ j = 5 by omega) with rfl | rfl | rfl | rfl | rfl | rfl <;> rfl) (Nat.le_of_ble_eq_true rfl) (Nat.le_of_ble_eq_true rfl) d_law_0 (fun q0 H hP hD hS => ?_)
  refine lv_dup hx hb d_law_3 rfl ?_
  refine kcI (cc := code) (own := "FloodDiaryLaw") (index := 9) (wr := ([] : va_W)) hx hb hml hown hts hK hN hA hP hD hS (t_Fd_init l G q0) ⟨k_16, k_1, k_17, by decide +kernel, by decide +kernel, by decide +kernel⟩ k_15 ⟨Nat.le_of_ble_eq_true rfl, Nat.le_of_ble_eq_true rfl⟩ (List.perm_append_comm) rfl (Nat.le_of_ble_eq_true rfl) hl.1 d_law_4 ⟨Nat.le_of_ble_eq_true rfl, Nat.le_of_ble_eq_true rfl⟩ (fun u H locs hu hP2 hD2 hS => ?_)
  have hu : u.1 0 = q0 := hu
  subst hu
  have hP : va_P G.1 vwCl (W_Fd G u.1 (u.2 0) (W_S0 G u.2 S00) Fd0) H := hP2
  have hD : va_D (AA s) (W_Fd G u.1 (u.2 0) (W_S0 G u.2 S00) Fd0) := hD2
  refine lv_astore_n (lv' := [(1, .ref (u.1 0)), (0, .ref b)]) hx hb d_law_7 rfl hl (by decide) rfl (fun ls hl => ?_)
  refine va_new (ci := 9) (fs := [.null, .null, .null, .int 0, .null, .null, .null, .int 0, .int 0]) (C := R_Md) (T := T_Md) (N := 9) hx hb hts in_Md ty_Md ty_Md_ok hown (hts _ k_747) (hts _ k_748) (hts _ k_10) hK hP hD hS hA rfl (fun j hj => by rcases (show j = 0 ∨ j = 1 ∨ j = 2 ∨ j = 3 ∨ j = 4 ∨ j = 5 ∨ j = 6 ∨ j = 7 ∨ j = 8 by omega) with rfl | rfl | rfl | rfl | rfl | rfl | rfl | rfl | rfl <;> rfl) (Nat.le_of_ble_eq_true rfl) (Nat.le_of_ble_eq_true rfl) d_law_8 (fun q1 H hP hD hS => ?_)
  refine lv_dup hx hb d_law_11 rfl ?_
  refine kcI (cc := code) (own := "FloodDiaryLaw") (index := 12) (wr := W_Fd G u.1 (u.2 0) (W_S0 G u.2 S00) Fd0) hx hb hml hown hts hK hN hA hP hD hS (t_Md_init l G q1) ⟨k_750, k_10, k_751, by decide +kernel, by decide +kernel, by decide +kernel⟩ k_749 ⟨Nat.le_of_ble_eq_true rfl, Nat.le_of_ble_eq_true rfl⟩ (List.perm_append_comm) rfl (Nat.le_of_ble_eq_true rfl) hl.1 d_law_12 ⟨Nat.le_of_ble_eq_true rfl, Nat.le_of_ble_eq_true rfl⟩ (fun w H locs hw hP2 hD2 hS => ?_)
  have hw : w 0 = q1 := hw
  subst hw
  refine lv_astore_n (lv' := [(2, .ref (w 0)), (1, .ref (u.1 0)), (0, .ref b)]) hx hb d_law_15 rfl hl (by decide) rfl (fun ls hl => ?_)
  refine lv_iconst (v := 0) hx hb d_law_16 (by decide) ?_
  refine lv_istore_n (lv' := [(3, .int 0), (2, .ref (w 0)), (1, .ref (u.1 0)), (0, .ref b)]) hx hb d_law_17 rfl hl (by decide) rfl (fun ls hl => ?_)
  refine W.widen (k := 300 + 20 * 0) (n := 50000 + 2248 * 0) (Nat.le_of_ble_eq_true rfl) (Nat.le_of_ble_eq_true rfl) ?_
  exact law_loop (a := u.1) (ca := w) (h := u.2 0) Z hr hlocks hL 512 0 (W_S0 G u.2 S00) Fd0 Md0 H locs ls rfl ALL_0 (SLS_0 G u.2) hP2 hD2 hS (lv_sub hl [3, 2, 1, 0] rfl)

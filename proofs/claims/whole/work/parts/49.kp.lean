/-! what a method that may make cells leaves: its world hangs on what was made -/
def qA (G : GG) {S : Type} (A : Nat → Prop) (W0 : S → va_W) (P : S → Prop) : Array Value → State → Outcome → State → Prop := va_Qv (S := S) P (fun u t => va_P G.1 vwCl (W0 u) t.heap ∧ va_D A (W0 u)) A
def qAi (G : GG) {S : Type} (A : Nat → Prop) (W0 : S → va_W) (P : S → Prop) (r : Int32) : Array Value → State → Outcome → State → Prop := va_Qi (S := S) (fun r2 u => r2 = r ∧ P u) (fun u t => va_P G.1 vwCl (W0 u) t.heap ∧ va_D A (W0 u)) A
def MA {S : Type} (l : Launch) (G : GG) (y : MethodName) (cc : ByteArray) (n : Nat) (rm : Room) (w : va_W) (av : List Value) (W0 : S → va_W) (P : S → Prop) : Prop :=
  ∀ sz : Nat, Met l y (WS y cc n none) rm (pC G sz w av) (qA G (va_A w sz) W0 P) rm.cells rm.slots (va_A w sz)
def MAi {S : Type} (l : Launch) (G : GG) (y : MethodName) (cc : ByteArray) (n : Nat) (rt : Option FieldType) (rm : Room) (w : va_W) (av : List Value) (W0 : S → va_W) (P : S → Prop) (r : Int32) : Prop :=
  ∀ sz : Nat, Met l y (WS y cc n rt) rm (pC G sz w av) (qAi G (va_A w sz) W0 P r) rm.cells rm.slots (va_A w sz)
theorem ofA {S : Type} {l : Launch} {G : GG} {y : MethodName} {cc : ByteArray} {n : Nat} {rm : Room} {w : va_W} {av : List Value} {W0 : S → va_W} {P : S → Prop} (own : String) (hy : plainName y.cls = true) (ho : y.cls = own) (hn : (lg_sl av).length ≤ n)
    (body : ∀ (p : Program) (e : Env) (s : State) (m : MethodId) (args : Array Value) (below : List Frame) (meth : Method) (c : Code) (A : Nat → Prop) (ls : Array Slot),
      p.tables.exec = Jvm.exec → c.code = cc → meth.sig.returnType = none → c.maxLocals = n → s.vm.findClass own = some m.cls → (∀ q ∈ TB, q.before args s = true) → meth.locks = false → va_K G.1 vwCl (tysG G) s → NW s →
      (∀ q : Nat, s.heap.size ≤ q → A q) → va_P G.1 vwCl w s.heap → va_D A w → va_S A s.heap s.heap [] → lv_has ls n (lv_args 0 av) →
      W p l e rm s m args below meth c s.heap [] 0 0 (MQ below (qA G A W0 P) args s rm.cells rm.slots A) (F0 m 0 ls [])) : MA l G y cc n rm w av W0 P := by
  intro sz
  refine Met.ofW (cc := cc) (maxL := n) (ret := none) hy rfl ?_
  intro p e s m args below meth c s₁ B hml hv
  obtain ⟨rfl, hsz, hP, hK, hN, hD0⟩ := hv
  subst hsz
  have hts := atoms_spec (ws := WS y cc n none) B.pre
  have hown : s.vm.findClass own = some m.cls := ho ▸ findClass_of_methodNamed B.named
  have hl := lv_entry av (n := n) hn
  rw [lg_entry_eq]
  exact body p e s m av.toArray below meth c (va_A w s.heap.size) _ B.exec B.bytes B.returns hml hown (fun q hq => hts q (List.mem_cons_of_mem _ hq)) B.notSynchronized hK hN (fun q h => Or.inr h) hP hD0.self va_S.rf hl
theorem ofAi {S : Type} {l : Launch} {G : GG} {y : MethodName} {cc : ByteArray} {n : Nat} {rt : Option FieldType} {rm : Room} {w : va_W} {av : List Value} {W0 : S → va_W} {P : S → Prop} {r : Int32} (own : String) (hy : plainName y.cls = true) (ho : y.cls = own) (hn : (lg_sl av).length ≤ n)
    (body : ∀ (p : Program) (e : Env) (s : State) (m : MethodId) (args : Array Value) (below : List Frame) (meth : Method) (c : Code) (A : Nat → Prop) (ls : Array Slot),
      p.tables.exec = Jvm.exec → c.code = cc → meth.sig.returnType = rt → c.maxLocals = n → s.vm.findClass own = some m.cls → (∀ q ∈ TB, q.before args s = true) → meth.locks = false → va_K G.1 vwCl (tysG G) s → NW s →
      (∀ q : Nat, s.heap.size ≤ q → A q) → va_P G.1 vwCl w s.heap → va_D A w → va_S A s.heap s.heap [] → lv_has ls n (lv_args 0 av) →
      W p l e rm s m args below meth c s.heap [] 0 0 (MQ below (qAi G A W0 P r) args s rm.cells rm.slots A) (F0 m 0 ls [])) : MAi l G y cc n rt rm w av W0 P r := by
  intro sz
  refine Met.ofW (cc := cc) (maxL := n) (ret := rt) hy rfl ?_
  intro p e s m args below meth c s₁ B hml hv
  obtain ⟨rfl, hsz, hP, hK, hN, hD0⟩ := hv
  subst hsz
  have hts := atoms_spec (ws := WS y cc n rt) B.pre
  have hown : s.vm.findClass own = some m.cls := ho ▸ findClass_of_methodNamed B.named
  have hl := lv_entry av (n := n) hn
  rw [lg_entry_eq]
  exact body p e s m av.toArray below meth c (va_A w s.heap.size) _ B.exec B.bytes B.returns hml hown (fun q hq => hts q (List.mem_cons_of_mem _ hq)) B.notSynchronized hK hN (fun q h => Or.inr h) hP hD0.self va_S.rf hl
section KC3
variable {p : Program} {l : Launch} {e : Env} {R : Room} {s : State} {m : MethodId} {args : Array Value} {below : List Frame} {meth : Method} {c : Code} {H : Heap} {locs : List Loc} {cells slots : Nat} {Q : State → Prop}
variable {cc : ByteArray} {pc : Nat} {ls : Array Slot} {G : GG} {A : Nat → Prop} {H0 : Heap} {own : String} {nL : Nat}
theorem kA {S : Type} {W0 : S → va_W} {P : S → Prop} {u : S} (hx : p.tables.exec = Jvm.exec) (hb : c.code = cc) (hr : meth.sig.returnType = none) (hlk : meth.locks = false) (hP : va_P G.1 vwCl (W0 u) H) (hD : va_D A (W0 u)) (hS : va_S A s.heap H locs) (hu : P u) (hdg : decode cc pc = .ok (.return_, 1)) :
    W p l e R s m args below meth c H locs cells slots (MQ below (qA G A W0 P) args s cells slots A) (F0 m pc ls []) :=
  W.vret hx hb hr (fun t ht hW => ⟨⟨u, rfl, hu, by rw [ht]; exact hP, hD⟩, hS.F ht⟩) hS.2.2 hdg hlk
theorem kAi {S : Type} {W0 : S → va_W} {P : S → Prop} {u : S} {r : Int32} (hx : p.tables.exec = Jvm.exec) (hb : c.code = cc) (hr : meth.sig.returnType = some .int) (hlk : meth.locks = false) (hP : va_P G.1 vwCl (W0 u) H) (hD : va_D A (W0 u)) (hS : va_S A s.heap H locs) (hu : P u) (hdg : decode cc pc = .ok (.ireturn, 1)) :
    W p l e R s m args below meth c H locs cells slots (MQ below (qAi G A W0 P r) args s cells slots A) (F0 m pc ls [.int r]) :=
  W.iret hx hb hr (fun t ht hW => ⟨⟨r, u, rfl, ⟨rfl, hu⟩, by rw [ht]; exact hP, hD⟩, hS.F ht⟩) hS.2.2 hdg hlk
theorem kcAv {S : Type} {W0 : S → va_W} {P : S → Prop} (hx : p.tables.exec = Jvm.exec) (hb : c.code = cc) (hml : c.maxLocals = nL) (hown : s.vm.findClass own = some m.cls) (hts : ∀ q ∈ TB, q.before args s = true) (hK : va_K G.1 vwCl (tysG G) s) (hN : NW s) (hA : ∀ q, H0.size ≤ q → A q)
    {ws wc wr : va_W} (hP : va_P G.1 vwCl ws H) (hD : va_D A ws) (hS : va_S A H0 H locs)
    {y : MethodName} {bytes : ByteArray} {maxL n index : Nat} {rm : Room} {C : String} {b : Nat} {As rest st0 : List Value}
    (hM : MA l G y bytes maxL rm wc (.ref b :: As) W0 P) (F : mfV y bytes maxL none C n) (hl : Cond.methodLink own index y ∈ TB) (hR : rm.frames + 1 ≤ R.frames ∧ 8 + (maxL + 11) + rm.locals ≤ R.locals) (p1 : ws.Perm (wc ++ wr))
    (ci k0 : Nat) {q : vw_C} (hq : vwCl[ci]? = some q) (hqC : q.1 = C) {fs : List Value} (he : wc[k0]? = some (b, .inr (ci, fs))) (hst : st0 = As.reverse ++ .ref b :: rest) (hn : As.length = n) (hw : (rest.map fun v => v.category).sum ≤ 8) (hls : ls.size = nL) (hdg : decode cc pc = .ok (.invokevirtual index, 3)) (hf : cells + rm.cells ≤ R.cells ∧ slots + rm.slots ≤ R.slots)
    (kk : ∀ (u : S) (H1 : Heap) (locs1 : List Loc), P u → va_P G.1 vwCl (W0 u ++ wr) H1 → va_D A (W0 u ++ wr) → va_S A H0 H1 locs1 → W p l e R s m args below meth c H1 locs1 (cells + rm.cells) (slots + rm.slots) Q (F0 m (pc + 3) ls rest)) :
    W p l e R s m args below meth c H locs cells slots Q (F0 m pc ls st0) := by
  have hPc := vP_left (vP_perm p1 hP)
  have hDc := vD_left (vD_perm p1 hD)
  obtain ⟨f1, f2, f3, f4, f5, f6, f7, f8⟩ := F
  have hrun := va_runV (R := R) (H := H) (locs := locs) (cells := cells) (slots := slots) (meth := meth) (e := e) (below := below) (C := C) (b := b) (As := As) (rest := rest) (index := index) (g := F0 m pc ls st0) ⟨hx, hb, hml, hown, hts⟩ (hM H.size)
    (⟨callB_of n hts (WS_good f4) rfl rfl rfl (hts _ (f5 ▸ f3)) (hts _ hl) ⟨f6, f7, f8⟩ hR, hts _ f1, hts _ f2⟩ : CallW R s args own C index y bytes maxL none (WS y bytes maxL none) rm rm.cells rm.slots n)
    ⟨(kPre hK hN hPc hDc).1, by have h := va_recv hK hPc hq he; rw [hqC] at h; exact h, (kPre hK hN hPc hDc).2⟩ rfl hn hls hst (lv_room hw) hdg hf
  exact va_callv hrun hS (fun q _ h => fr_free hD p1 hS hA q h) (fr_free hD p1 hS hA) (fun u t H1 locs1 ht hvm hw1 hB hz hk hS1 => by
    obtain ⟨hP1, hD1⟩ := hB
    rw [ht] at hP1
    obtain ⟨hP2, hD2⟩ := fr_join (ws' := W0 u ++ wr) hP hD p1 (List.Perm.refl _) hk (fr_free hD p1 hS hA) hP1 hD1
    exact kk u H1 locs1 hw1 hP2 hD2 hS1)
end KC3
theorem pm_49 (x0 x1 x2 : va_W) : List.Perm ((x0 ++ x1) ++ x2) ((x2 ++ x1) ++ (x0 ++ (([] : va_W)))) := prm (fun d z => by first | (simp only [List.count_append, List.count_nil]; omega) | simp only [List.count_append, List.count_nil])
theorem fS_0 : f_Fd_isSlot (0 : Int32) = some 1 := by
  unfold f_Fd_isSlot
  rw [ob_f (by decide), ob_f (by decide)]
theorem fS_1 : f_Fd_isSlot (1 : Int32) = some 1 := by
  unfold f_Fd_isSlot
  rw [ob_f (by decide), ob_f (by decide)]
theorem prm_sw (x0 xb xu : va_W) : List.Perm ((x0 ++ xb) ++ xu) ((x0 ++ (xu ++ [])) ++ xb) := prm (fun d z => by simp only [List.count_append, List.count_nil]; omega)
theorem prm_s1 (x0 x1 xb xu : va_W) : List.Perm (((x0 ++ (x1 ++ [])) ++ xb) ++ xu) ((x0 ++ (x1 ++ (xu ++ []))) ++ xb) := prm (fun d z => by simp only [List.count_append, List.count_nil]; omega)
theorem prm_s2 (x0 x1 xb xu : va_W) : List.Perm (((x0 ++ (x1 ++ [])) ++ xb) ++ xu) ((x0 ++ (xu ++ (x1 ++ []))) ++ xb) := prm (fun d z => by simp only [List.count_append, List.count_nil]; omega)
theorem pm_kp (x0 x1 x2 x3 x4 x5 x6 : va_W) : List.Perm (x0 ++ (x1 ++ (x2 ++ (x3 ++ (x4 ++ (x5 ++ (x6 ++ [])))))))  ((x6 ++ x1) ++ (x0 ++ (x2 ++ (x3 ++ (x4 ++ (x5 ++ [])))))) := prm (fun d z => by simp only [List.count_append, List.count_nil]; omega)
set_option maxHeartbeats 4000000 in
set_option maxRecDepth 100000 in
theorem t_S0_store_0 (l : Launch) (G : GG) (a b : Nat → Nat) (v : V_S0) (u q : V_St) (hf : f_St_become St0 u = some q) : MA (S := Nat → Nat) l G y_Sl_store c_Sl_store 4 { frames := 3, cells := 20, slots := 2248, locals := 61 } (W_S0 G a v ++ W_St G b u) [.ref (a 0), .int (0 : Int32), .ref (b 0)] (fun a1 => W_S1 G a1 q ++ W_St G b u) (fun a1 => a1 0 = a 0) := by
  refine ofA "FloodDiary$Slots" (by decide +kernel) rfl (Nat.le_of_ble_eq_true rfl) (fun p e s m args below meth c A ls hx hb hr hml hown hts hlk hK hN hA hP hD hS hl => ?_)
  have hl : lv_has ls 4 [(0, .ref (a 0)), (1, .int (0 : Int32)), (2, .ref (b 0))] := hl
  refine lv_iload_n hx hb d_Sl_store_0 rfl (lv_at hl 1 rfl) ?_
  refine kcSN (cc := c_Sl_store) (own := "FloodDiary$Slots") (index := 17) (wc := ([] : va_W)) (wr := W_S0 G a v ++ W_St G b u) (wc' := ([] : va_W)) (ws' := W_S0 G a v ++ W_St G b u) hx hb hml hown hts hK hN hA hP hD hS (t_Fd_isSlot l G (0 : Int32) 1 fS_0) m_Fd_isSlot nsM_15 ⟨Nat.le_of_ble_eq_true rfl, Nat.le_of_ble_eq_true rfl⟩ (List.Perm.refl _) (List.Perm.refl _) rfl rfl (Nat.le_of_ble_eq_true rfl) hl.1 d_Sl_store_1 ⟨Nat.zero_le _, Nat.zero_le _⟩ (fun H locs hP hD hS => ?_)
  refine lv_if_eq (tgt := 38) hx hb d_Sl_store_4 (by decide) (fun c_9 => absurd c_9 (by decide)) (fun _ => ?_)
  refine lv_aload_n hx hb d_Sl_store_7 rfl (lv_at hl 0 rfl) ?_
  refine va_get (D := G.1) (ci := 5) (v := .ref (a 1)) (C := R_Sl) (T := T_Sl) (N := 1) hx hb hts in_Sl hown hK hP 0 rfl rfl 0 (by decide) (hts _ k_172) (fun _ h9 => h9) rfl d_Sl_store_8 ?_
  refine lv_iload_n hx hb d_Sl_store_11 rfl (lv_at hl 1 rfl) ?_
  refine va_aldq (C := "FloodDiary$State") hx hb hK hP 1 3 rfl rfl (by unfold vp_in; decide) d_Sl_store_12 ?_
  refine W.eq (g2 := F0 m 13 ls [.null]) rfl ?_
  refine lv_astore_nN (lv' := [(3, .null), (0, .ref (a 0)), (1, .int (0 : Int32)), (2, .ref (b 0))]) hx hb d_Sl_store_13 rfl hl (by decide) rfl (fun ls hl => ?_)
  refine lv_aload_nN hx hb d_Sl_store_14 rfl (lv_at hl 0 rfl) ?_
  refine lv_ifnonnullN hx hb d_Sl_store_15 ?_
  refine va_new (ci := 6) (fs := [.null, .null, .null, .int 0, .int 0, .int 0, .int 0, .int 0, .int 0]) (C := R_St) (T := T_St) (N := 9) hx hb hts in_St ty_St ty_St_ok hown (hts _ k_171) (hts _ k_22) (hts _ k_2) hK hP hD hS hA rfl (fun j hj => by rcases (show j = 0 ∨ j = 1 ∨ j = 2 ∨ j = 3 ∨ j = 4 ∨ j = 5 ∨ j = 6 ∨ j = 7 ∨ j = 8 by omega) with rfl | rfl | rfl | rfl | rfl | rfl | rfl | rfl | rfl <;> rfl) (Nat.le_of_ble_eq_true rfl) (Nat.le_of_ble_eq_true rfl) d_Sl_store_18 (fun q9 H hP hD hS => ?_)
  refine lv_dup hx hb d_Sl_store_21 rfl ?_
  refine kcIN (cc := c_Sl_store) (own := "FloodDiary$Slots") (index := 21) (wr := W_S0 G a v ++ W_St G b u) hx hb hml hown hts hK hN hA hP hD hS (t_St_init l G q9) ⟨k_24, k_2, k_25, by decide +kernel, by decide +kernel, by decide +kernel⟩ nsM_16 ⟨Nat.le_of_ble_eq_true rfl, Nat.le_of_ble_eq_true rfl⟩ (List.perm_append_comm) rfl (Nat.le_of_ble_eq_true rfl) hl.1 d_Sl_store_22 ⟨Nat.le_of_ble_eq_true rfl, Nat.le_of_ble_eq_true rfl⟩ (fun u9 H locs hu hP2 hD2 hS => ?_)
  have hu : u9 0 = q9 := hu
  subst hu
  have hP : va_P G.1 vwCl ((W_S0 G a v ++ W_St G b u) ++ W_St G u9 St0) H := hP2
  have hD : va_D A ((W_S0 G a v ++ W_St G b u) ++ W_St G u9 St0) := hD2
  refine lv_astore_n (lv' := [(3, .ref (u9 0)), (0, .ref (a 0)), (1, .int (0 : Int32)), (2, .ref (b 0))]) hx hb d_Sl_store_25 rfl hl (by decide) rfl (fun ls hl => ?_)
  refine lv_aload_n hx hb d_Sl_store_26 rfl (lv_at hl 1 rfl) ?_
  refine va_get (D := G.1) (ci := 5) (v := .ref (a 1)) (C := R_Sl) (T := T_Sl) (N := 1) hx hb hts in_Sl hown hK hP 0 rfl rfl 0 (by decide) (hts _ k_172) (fun _ h9 => h9) rfl d_Sl_store_27 ?_
  refine lv_iload_n hx hb d_Sl_store_30 rfl (lv_at hl 2 rfl) ?_
  refine lv_aload_n hx hb d_Sl_store_31 rfl (lv_at hl 0 rfl) ?_
  refine va_astq hx hb hK hP hD hS 1 3 22 6 rfl rfl rfl rfl (by unfold vp_in; decide) d_Sl_store_32 (fun H locs hP hD hS => ?_)
  have hP : va_P G.1 vwCl ((([(a 0, .inr (5, [.ref (a 1)])), (a 1, .inl (G.2.2.2.2, 2, .inr (.inr (.inr (.inr (va_up (fun _ => none) 0 (some (u9 0))))))))]) ++ W_St G b u) ++ W_St G u9 St0) H := hP
  have hD : va_D A ((([(a 0, .inr (5, [.ref (a 1)])), (a 1, .inl (G.2.2.2.2, 2, .inr (.inr (.inr (.inr (va_up (fun _ => none) 0 (some (u9 0))))))))]) ++ W_St G b u) ++ W_St G u9 St0) := hD
  refine lv_aload_n hx hb d_Sl_store_33 rfl (lv_at hl 0 rfl) ?_
  refine lv_aload_n hx hb d_Sl_store_34 rfl (lv_at hl 3 rfl) ?_
  refine kcVv (cc := c_Sl_store) (own := "FloodDiary$Slots") (index := 22) (wc := W_St G u9 St0 ++ W_St G b u) (wr := ([(a 0, .inr (5, [.ref (a 1)])), (a 1, .inl (G.2.2.2.2, 2, .inr (.inr (.inr (.inr (va_up (fun _ => none) 0 (some (u9 0))))))))]) ++ ([] : va_W)) (wc' := W_St G u9 q ++ W_St G b u) (ws' := (([(a 0, .inr (5, [.ref (a 1)])), (a 1, .inl (G.2.2.2.2, 2, .inr (.inr (.inr (.inr (va_up (fun _ => none) 0 (some (u9 0))))))))]) ++ W_St G b u) ++ W_St G u9 q) hx hb hml hown hts hK hN hA hP hD hS (t_St_become l G u9 b St0 u q hf) m_St_become k_734 ⟨Nat.le_of_ble_eq_true rfl, Nat.le_of_ble_eq_true rfl⟩ (pm_49 ([(a 0, .inr (5, [.ref (a 1)])), (a 1, .inl (G.2.2.2.2, 2, .inr (.inr (.inr (.inr (va_up (fun _ => none) 0 (some (u9 0))))))))]) (W_St G b u) (W_St G u9 St0)) (pm_49 ([(a 0, .inr (5, [.ref (a 1)])), (a 1, .inl (G.2.2.2.2, 2, .inr (.inr (.inr (.inr (va_up (fun _ => none) 0 (some (u9 0))))))))]) (W_St G b u) (W_St G u9 q)).symm 6 0 rfl rfl rfl rfl rfl (Nat.le_of_ble_eq_true rfl) hl.1 d_Sl_store_35 ⟨Nat.le_of_ble_eq_true rfl, Nat.le_of_ble_eq_true rfl⟩ (fun H locs hP hD hS => ?_)
  have hP := vP_swap (x := [(a 0, .inr (5, [.ref (a 1)]))]) (e' := (2, .inr (.inr (.inr (.inr (fun j => if j = 0 then some ((fun j => if j < 2 then a j else u9 (j - 2)) 2) else none)))))) hP (cellQ (fun j hj => by rcases (show j = 0 ∨ j = 1 by omega) with rfl | rfl <;> rfl))
  have hP : va_P G.1 vwCl ((([(a 0, .inr (5, [.ref (a 1)])), (a 1, .inl (G.2.2.2.2, 2, .inr (.inr (.inr (.inr (fun j => if j = 0 then some ((fun j => if j < 2 then a j else u9 (j - 2)) 2) else none))))))]) ++ W_St G b u) ++ W_St G u9 q) H := hP
  have hD := vD_same (ws' := (([(a 0, .inr (5, [.ref (a 1)])), (a 1, .inl (G.2.2.2.2, 2, .inr (.inr (.inr (.inr (fun j => if j = 0 then some ((fun j => if j < 2 then a j else u9 (j - 2)) 2) else none))))))]) ++ W_St G b u) ++ W_St G u9 q) hD rfl
  have e2 : sh (fun j => if j < 2 then a j else u9 (j - 2)) 2 = u9 := by funext j; show (if 2 + j < 2 then _ else _) = _; rw [if_neg (by omega)]; congr 1; omega
  have eW : W_S1 G (fun j => if j < 2 then a j else u9 (j - 2)) q ++ W_St G b u = ([(a 0, .inr (5, [.ref (a 1)])), (a 1, .inl (G.2.2.2.2, 2, .inr (.inr (.inr (.inr (fun j => if j = 0 then some ((fun j => if j < 2 then a j else u9 (j - 2)) 2) else none))))))] ++ (W_St G u9 q ++ [])) ++ W_St G b u := by show (O_S1 G (fun j => if j < 2 then a j else u9 (j - 2)) q ++ (W_St G (sh (fun j => if j < 2 then a j else u9 (j - 2)) 2) q ++ [])) ++ _ = _; rw [e2]; rfl
  have hP := vP_perm (prm_sw _ _ _) hP
  have hD := vD_perm (prm_sw _ _ _) hD
  rw [← eW] at hP hD
  refine W.widen (k := 20) (n := 2248) (Nat.le_of_ble_eq_true rfl) (Nat.le_of_ble_eq_true rfl) ?_
  exact kA (u := (fun j => if j < 2 then a j else u9 (j - 2))) hx hb hr hlk hP hD hS rfl d_Sl_store_38

set_option maxHeartbeats 4000000 in
set_option maxRecDepth 100000 in
theorem t_S0_store_1 (l : Launch) (G : GG) (a b : Nat → Nat) (v : V_S0) (u q : V_St) (hf : f_St_become St0 u = some q) : MA (S := Nat → Nat) l G y_Sl_store c_Sl_store 4 { frames := 3, cells := 20, slots := 2248, locals := 61 } (W_S0 G a v ++ W_St G b u) [.ref (a 0), .int (1 : Int32), .ref (b 0)] (fun a1 => W_S2 G a1 q ++ W_St G b u) (fun a1 => a1 0 = a 0) := by
  refine ofA "FloodDiary$Slots" (by decide +kernel) rfl (Nat.le_of_ble_eq_true rfl) (fun p e s m args below meth c A ls hx hb hr hml hown hts hlk hK hN hA hP hD hS hl => ?_)
  have hl : lv_has ls 4 [(0, .ref (a 0)), (1, .int (1 : Int32)), (2, .ref (b 0))] := hl
  refine lv_iload_n hx hb d_Sl_store_0 rfl (lv_at hl 1 rfl) ?_
  refine kcSN (cc := c_Sl_store) (own := "FloodDiary$Slots") (index := 17) (wc := ([] : va_W)) (wr := W_S0 G a v ++ W_St G b u) (wc' := ([] : va_W)) (ws' := W_S0 G a v ++ W_St G b u) hx hb hml hown hts hK hN hA hP hD hS (t_Fd_isSlot l G (1 : Int32) 1 fS_1) m_Fd_isSlot nsM_15 ⟨Nat.le_of_ble_eq_true rfl, Nat.le_of_ble_eq_true rfl⟩ (List.Perm.refl _) (List.Perm.refl _) rfl rfl (Nat.le_of_ble_eq_true rfl) hl.1 d_Sl_store_1 ⟨Nat.zero_le _, Nat.zero_le _⟩ (fun H locs hP hD hS => ?_)
  refine lv_if_eq (tgt := 38) hx hb d_Sl_store_4 (by decide) (fun c_9 => absurd c_9 (by decide)) (fun _ => ?_)
  refine lv_aload_n hx hb d_Sl_store_7 rfl (lv_at hl 0 rfl) ?_
  refine va_get (D := G.1) (ci := 5) (v := .ref (a 1)) (C := R_Sl) (T := T_Sl) (N := 1) hx hb hts in_Sl hown hK hP 0 rfl rfl 0 (by decide) (hts _ k_172) (fun _ h9 => h9) rfl d_Sl_store_8 ?_
  refine lv_iload_n hx hb d_Sl_store_11 rfl (lv_at hl 1 rfl) ?_
  refine va_aldq (C := "FloodDiary$State") hx hb hK hP 1 3 rfl rfl (by unfold vp_in; decide) d_Sl_store_12 ?_
  refine W.eq (g2 := F0 m 13 ls [.null]) rfl ?_
  refine lv_astore_nN (lv' := [(3, .null), (0, .ref (a 0)), (1, .int (1 : Int32)), (2, .ref (b 0))]) hx hb d_Sl_store_13 rfl hl (by decide) rfl (fun ls hl => ?_)
  refine lv_aload_nN hx hb d_Sl_store_14 rfl (lv_at hl 0 rfl) ?_
  refine lv_ifnonnullN hx hb d_Sl_store_15 ?_
  refine va_new (ci := 6) (fs := [.null, .null, .null, .int 0, .int 0, .int 0, .int 0, .int 0, .int 0]) (C := R_St) (T := T_St) (N := 9) hx hb hts in_St ty_St ty_St_ok hown (hts _ k_171) (hts _ k_22) (hts _ k_2) hK hP hD hS hA rfl (fun j hj => by rcases (show j = 0 ∨ j = 1 ∨ j = 2 ∨ j = 3 ∨ j = 4 ∨ j = 5 ∨ j = 6 ∨ j = 7 ∨ j = 8 by omega) with rfl | rfl | rfl | rfl | rfl | rfl | rfl | rfl | rfl <;> rfl) (Nat.le_of_ble_eq_true rfl) (Nat.le_of_ble_eq_true rfl) d_Sl_store_18 (fun q9 H hP hD hS => ?_)
  refine lv_dup hx hb d_Sl_store_21 rfl ?_
  refine kcIN (cc := c_Sl_store) (own := "FloodDiary$Slots") (index := 21) (wr := W_S0 G a v ++ W_St G b u) hx hb hml hown hts hK hN hA hP hD hS (t_St_init l G q9) ⟨k_24, k_2, k_25, by decide +kernel, by decide +kernel, by decide +kernel⟩ nsM_16 ⟨Nat.le_of_ble_eq_true rfl, Nat.le_of_ble_eq_true rfl⟩ (List.perm_append_comm) rfl (Nat.le_of_ble_eq_true rfl) hl.1 d_Sl_store_22 ⟨Nat.le_of_ble_eq_true rfl, Nat.le_of_ble_eq_true rfl⟩ (fun u9 H locs hu hP2 hD2 hS => ?_)
  have hu : u9 0 = q9 := hu
  subst hu
  have hP : va_P G.1 vwCl ((W_S0 G a v ++ W_St G b u) ++ W_St G u9 St0) H := hP2
  have hD : va_D A ((W_S0 G a v ++ W_St G b u) ++ W_St G u9 St0) := hD2
  refine lv_astore_n (lv' := [(3, .ref (u9 0)), (0, .ref (a 0)), (1, .int (1 : Int32)), (2, .ref (b 0))]) hx hb d_Sl_store_25 rfl hl (by decide) rfl (fun ls hl => ?_)
  refine lv_aload_n hx hb d_Sl_store_26 rfl (lv_at hl 1 rfl) ?_
  refine va_get (D := G.1) (ci := 5) (v := .ref (a 1)) (C := R_Sl) (T := T_Sl) (N := 1) hx hb hts in_Sl hown hK hP 0 rfl rfl 0 (by decide) (hts _ k_172) (fun _ h9 => h9) rfl d_Sl_store_27 ?_
  refine lv_iload_n hx hb d_Sl_store_30 rfl (lv_at hl 2 rfl) ?_
  refine lv_aload_n hx hb d_Sl_store_31 rfl (lv_at hl 0 rfl) ?_
  refine va_astq hx hb hK hP hD hS 1 3 22 6 rfl rfl rfl rfl (by unfold vp_in; decide) d_Sl_store_32 (fun H locs hP hD hS => ?_)
  have hP : va_P G.1 vwCl ((([(a 0, .inr (5, [.ref (a 1)])), (a 1, .inl (G.2.2.2.2, 2, .inr (.inr (.inr (.inr (va_up (fun _ => none) 1 (some (u9 0))))))))]) ++ W_St G b u) ++ W_St G u9 St0) H := hP
  have hD : va_D A ((([(a 0, .inr (5, [.ref (a 1)])), (a 1, .inl (G.2.2.2.2, 2, .inr (.inr (.inr (.inr (va_up (fun _ => none) 1 (some (u9 0))))))))]) ++ W_St G b u) ++ W_St G u9 St0) := hD
  refine lv_aload_n hx hb d_Sl_store_33 rfl (lv_at hl 0 rfl) ?_
  refine lv_aload_n hx hb d_Sl_store_34 rfl (lv_at hl 3 rfl) ?_
  refine kcVv (cc := c_Sl_store) (own := "FloodDiary$Slots") (index := 22) (wc := W_St G u9 St0 ++ W_St G b u) (wr := ([(a 0, .inr (5, [.ref (a 1)])), (a 1, .inl (G.2.2.2.2, 2, .inr (.inr (.inr (.inr (va_up (fun _ => none) 1 (some (u9 0))))))))]) ++ ([] : va_W)) (wc' := W_St G u9 q ++ W_St G b u) (ws' := (([(a 0, .inr (5, [.ref (a 1)])), (a 1, .inl (G.2.2.2.2, 2, .inr (.inr (.inr (.inr (va_up (fun _ => none) 1 (some (u9 0))))))))]) ++ W_St G b u) ++ W_St G u9 q) hx hb hml hown hts hK hN hA hP hD hS (t_St_become l G u9 b St0 u q hf) m_St_become k_734 ⟨Nat.le_of_ble_eq_true rfl, Nat.le_of_ble_eq_true rfl⟩ (pm_49 ([(a 0, .inr (5, [.ref (a 1)])), (a 1, .inl (G.2.2.2.2, 2, .inr (.inr (.inr (.inr (va_up (fun _ => none) 1 (some (u9 0))))))))]) (W_St G b u) (W_St G u9 St0)) (pm_49 ([(a 0, .inr (5, [.ref (a 1)])), (a 1, .inl (G.2.2.2.2, 2, .inr (.inr (.inr (.inr (va_up (fun _ => none) 1 (some (u9 0))))))))]) (W_St G b u) (W_St G u9 q)).symm 6 0 rfl rfl rfl rfl rfl (Nat.le_of_ble_eq_true rfl) hl.1 d_Sl_store_35 ⟨Nat.le_of_ble_eq_true rfl, Nat.le_of_ble_eq_true rfl⟩ (fun H locs hP hD hS => ?_)
  have hP := vP_swap (x := [(a 0, .inr (5, [.ref (a 1)]))]) (e' := (2, .inr (.inr (.inr (.inr (fun j => if j = 1 then some ((fun j => if j < 2 then a j else u9 (j - 2)) 2) else none)))))) hP (cellQ (fun j hj => by rcases (show j = 0 ∨ j = 1 by omega) with rfl | rfl <;> rfl))
  have hP : va_P G.1 vwCl ((([(a 0, .inr (5, [.ref (a 1)])), (a 1, .inl (G.2.2.2.2, 2, .inr (.inr (.inr (.inr (fun j => if j = 1 then some ((fun j => if j < 2 then a j else u9 (j - 2)) 2) else none))))))]) ++ W_St G b u) ++ W_St G u9 q) H := hP
  have hD := vD_same (ws' := (([(a 0, .inr (5, [.ref (a 1)])), (a 1, .inl (G.2.2.2.2, 2, .inr (.inr (.inr (.inr (fun j => if j = 1 then some ((fun j => if j < 2 then a j else u9 (j - 2)) 2) else none))))))]) ++ W_St G b u) ++ W_St G u9 q) hD rfl
  have e2 : sh (fun j => if j < 2 then a j else u9 (j - 2)) 2 = u9 := by funext j; show (if 2 + j < 2 then _ else _) = _; rw [if_neg (by omega)]; congr 1; omega
  have eW : W_S2 G (fun j => if j < 2 then a j else u9 (j - 2)) q ++ W_St G b u = ([(a 0, .inr (5, [.ref (a 1)])), (a 1, .inl (G.2.2.2.2, 2, .inr (.inr (.inr (.inr (fun j => if j = 1 then some ((fun j => if j < 2 then a j else u9 (j - 2)) 2) else none))))))] ++ (W_St G u9 q ++ [])) ++ W_St G b u := by show (O_S2 G (fun j => if j < 2 then a j else u9 (j - 2)) q ++ (W_St G (sh (fun j => if j < 2 then a j else u9 (j - 2)) 2) q ++ [])) ++ _ = _; rw [e2]; rfl
  have hP := vP_perm (prm_sw _ _ _) hP
  have hD := vD_perm (prm_sw _ _ _) hD
  rw [← eW] at hP hD
  refine W.widen (k := 20) (n := 2248) (Nat.le_of_ble_eq_true rfl) (Nat.le_of_ble_eq_true rfl) ?_
  exact kA (u := (fun j => if j < 2 then a j else u9 (j - 2))) hx hb hr hlk hP hD hS rfl d_Sl_store_38

set_option maxHeartbeats 4000000 in
set_option maxRecDepth 100000 in
theorem t_S1_store_1 (l : Launch) (G : GG) (a b : Nat → Nat) (v : V_S1) (u q : V_St) (hf : f_St_become St0 u = some q) : MA (S := Nat → Nat) l G y_Sl_store c_Sl_store 4 { frames := 3, cells := 20, slots := 2248, locals := 61 } (W_S1 G a v ++ W_St G b u) [.ref (a 0), .int (1 : Int32), .ref (b 0)] (fun a1 => W_S3 G a1 (v, q) ++ W_St G b u) (fun a1 => a1 0 = a 0) := by
  refine ofA "FloodDiary$Slots" (by decide +kernel) rfl (Nat.le_of_ble_eq_true rfl) (fun p e s m args below meth c A ls hx hb hr hml hown hts hlk hK hN hA hP hD hS hl => ?_)
  have hl : lv_has ls 4 [(0, .ref (a 0)), (1, .int (1 : Int32)), (2, .ref (b 0))] := hl
  refine lv_iload_n hx hb d_Sl_store_0 rfl (lv_at hl 1 rfl) ?_
  refine kcSN (cc := c_Sl_store) (own := "FloodDiary$Slots") (index := 17) (wc := ([] : va_W)) (wr := W_S1 G a v ++ W_St G b u) (wc' := ([] : va_W)) (ws' := W_S1 G a v ++ W_St G b u) hx hb hml hown hts hK hN hA hP hD hS (t_Fd_isSlot l G (1 : Int32) 1 fS_1) m_Fd_isSlot nsM_15 ⟨Nat.le_of_ble_eq_true rfl, Nat.le_of_ble_eq_true rfl⟩ (List.Perm.refl _) (List.Perm.refl _) rfl rfl (Nat.le_of_ble_eq_true rfl) hl.1 d_Sl_store_1 ⟨Nat.zero_le _, Nat.zero_le _⟩ (fun H locs hP hD hS => ?_)
  refine lv_if_eq (tgt := 38) hx hb d_Sl_store_4 (by decide) (fun c_9 => absurd c_9 (by decide)) (fun _ => ?_)
  refine lv_aload_n hx hb d_Sl_store_7 rfl (lv_at hl 0 rfl) ?_
  refine va_get (D := G.1) (ci := 5) (v := .ref (a 1)) (C := R_Sl) (T := T_Sl) (N := 1) hx hb hts in_Sl hown hK hP 0 rfl rfl 0 (by decide) (hts _ k_172) (fun _ h9 => h9) rfl d_Sl_store_8 ?_
  refine lv_iload_n hx hb d_Sl_store_11 rfl (lv_at hl 1 rfl) ?_
  refine va_aldq (C := "FloodDiary$State") hx hb hK hP 1 3 rfl rfl (by unfold vp_in; decide) d_Sl_store_12 ?_
  refine W.eq (g2 := F0 m 13 ls [.null]) rfl ?_
  refine lv_astore_nN (lv' := [(3, .null), (0, .ref (a 0)), (1, .int (1 : Int32)), (2, .ref (b 0))]) hx hb d_Sl_store_13 rfl hl (by decide) rfl (fun ls hl => ?_)
  refine lv_aload_nN hx hb d_Sl_store_14 rfl (lv_at hl 0 rfl) ?_
  refine lv_ifnonnullN hx hb d_Sl_store_15 ?_
  refine va_new (ci := 6) (fs := [.null, .null, .null, .int 0, .int 0, .int 0, .int 0, .int 0, .int 0]) (C := R_St) (T := T_St) (N := 9) hx hb hts in_St ty_St ty_St_ok hown (hts _ k_171) (hts _ k_22) (hts _ k_2) hK hP hD hS hA rfl (fun j hj => by rcases (show j = 0 ∨ j = 1 ∨ j = 2 ∨ j = 3 ∨ j = 4 ∨ j = 5 ∨ j = 6 ∨ j = 7 ∨ j = 8 by omega) with rfl | rfl | rfl | rfl | rfl | rfl | rfl | rfl | rfl <;> rfl) (Nat.le_of_ble_eq_true rfl) (Nat.le_of_ble_eq_true rfl) d_Sl_store_18 (fun q9 H hP hD hS => ?_)
  refine lv_dup hx hb d_Sl_store_21 rfl ?_
  refine kcIN (cc := c_Sl_store) (own := "FloodDiary$Slots") (index := 21) (wr := W_S1 G a v ++ W_St G b u) hx hb hml hown hts hK hN hA hP hD hS (t_St_init l G q9) ⟨k_24, k_2, k_25, by decide +kernel, by decide +kernel, by decide +kernel⟩ nsM_16 ⟨Nat.le_of_ble_eq_true rfl, Nat.le_of_ble_eq_true rfl⟩ (List.perm_append_comm) rfl (Nat.le_of_ble_eq_true rfl) hl.1 d_Sl_store_22 ⟨Nat.le_of_ble_eq_true rfl, Nat.le_of_ble_eq_true rfl⟩ (fun u9 H locs hu hP2 hD2 hS => ?_)
  have hu : u9 0 = q9 := hu
  subst hu
  have hP : va_P G.1 vwCl ((W_S1 G a v ++ W_St G b u) ++ W_St G u9 St0) H := hP2
  have hD : va_D A ((W_S1 G a v ++ W_St G b u) ++ W_St G u9 St0) := hD2
  refine lv_astore_n (lv' := [(3, .ref (u9 0)), (0, .ref (a 0)), (1, .int (1 : Int32)), (2, .ref (b 0))]) hx hb d_Sl_store_25 rfl hl (by decide) rfl (fun ls hl => ?_)
  refine lv_aload_n hx hb d_Sl_store_26 rfl (lv_at hl 1 rfl) ?_
  refine va_get (D := G.1) (ci := 5) (v := .ref (a 1)) (C := R_Sl) (T := T_Sl) (N := 1) hx hb hts in_Sl hown hK hP 0 rfl rfl 0 (by decide) (hts _ k_172) (fun _ h9 => h9) rfl d_Sl_store_27 ?_
  refine lv_iload_n hx hb d_Sl_store_30 rfl (lv_at hl 2 rfl) ?_
  refine lv_aload_n hx hb d_Sl_store_31 rfl (lv_at hl 0 rfl) ?_
  refine va_astq hx hb hK hP hD hS 1 3 42 6 rfl rfl rfl rfl (by unfold vp_in; decide) d_Sl_store_32 (fun H locs hP hD hS => ?_)
  have hP : va_P G.1 vwCl ((([(a 0, .inr (5, [.ref (a 1)])), (a 1, .inl (G.2.2.2.2, 2, .inr (.inr (.inr (.inr (va_up (fun j => if j = 0 then some (a 2) else none) 1 (some (u9 0))))))))] ++ (W_St G (sh a 2) v ++ [])) ++ W_St G b u) ++ W_St G u9 St0) H := hP
  have hD : va_D A ((([(a 0, .inr (5, [.ref (a 1)])), (a 1, .inl (G.2.2.2.2, 2, .inr (.inr (.inr (.inr (va_up (fun j => if j = 0 then some (a 2) else none) 1 (some (u9 0))))))))] ++ (W_St G (sh a 2) v ++ [])) ++ W_St G b u) ++ W_St G u9 St0) := hD
  refine lv_aload_n hx hb d_Sl_store_33 rfl (lv_at hl 0 rfl) ?_
  refine lv_aload_n hx hb d_Sl_store_34 rfl (lv_at hl 3 rfl) ?_
  refine kcVv (cc := c_Sl_store) (own := "FloodDiary$Slots") (index := 22) (wc := W_St G u9 St0 ++ W_St G b u) (wr := ([(a 0, .inr (5, [.ref (a 1)])), (a 1, .inl (G.2.2.2.2, 2, .inr (.inr (.inr (.inr (va_up (fun j => if j = 0 then some (a 2) else none) 1 (some (u9 0))))))))] ++ (W_St G (sh a 2) v ++ [])) ++ ([] : va_W)) (wc' := W_St G u9 q ++ W_St G b u) (ws' := (([(a 0, .inr (5, [.ref (a 1)])), (a 1, .inl (G.2.2.2.2, 2, .inr (.inr (.inr (.inr (va_up (fun j => if j = 0 then some (a 2) else none) 1 (some (u9 0))))))))] ++ (W_St G (sh a 2) v ++ [])) ++ W_St G b u) ++ W_St G u9 q) hx hb hml hown hts hK hN hA hP hD hS (t_St_become l G u9 b St0 u q hf) m_St_become k_734 ⟨Nat.le_of_ble_eq_true rfl, Nat.le_of_ble_eq_true rfl⟩ (pm_49 ([(a 0, .inr (5, [.ref (a 1)])), (a 1, .inl (G.2.2.2.2, 2, .inr (.inr (.inr (.inr (va_up (fun j => if j = 0 then some (a 2) else none) 1 (some (u9 0))))))))] ++ (W_St G (sh a 2) v ++ [])) (W_St G b u) (W_St G u9 St0)) (pm_49 ([(a 0, .inr (5, [.ref (a 1)])), (a 1, .inl (G.2.2.2.2, 2, .inr (.inr (.inr (.inr (va_up (fun j => if j = 0 then some (a 2) else none) 1 (some (u9 0))))))))] ++ (W_St G (sh a 2) v ++ [])) (W_St G b u) (W_St G u9 q)).symm 6 0 rfl rfl rfl rfl rfl (Nat.le_of_ble_eq_true rfl) hl.1 d_Sl_store_35 ⟨Nat.le_of_ble_eq_true rfl, Nat.le_of_ble_eq_true rfl⟩ (fun H locs hP hD hS => ?_)
  have hP := vP_swap (x := [(a 0, .inr (5, [.ref (a 1)]))]) (e' := (2, .inr (.inr (.inr (.inr (fun j => if j = 0 then some ((fun j => if j < 22 then a j else u9 (j - 22)) 2) else if j = 1 then some ((fun j => if j < 22 then a j else u9 (j - 22)) 22) else none)))))) hP (cellQ (fun j hj => by rcases (show j = 0 ∨ j = 1 by omega) with rfl | rfl <;> rfl))
  have hP : va_P G.1 vwCl ((([(a 0, .inr (5, [.ref (a 1)])), (a 1, .inl (G.2.2.2.2, 2, .inr (.inr (.inr (.inr (fun j => if j = 0 then some ((fun j => if j < 22 then a j else u9 (j - 22)) 2) else if j = 1 then some ((fun j => if j < 22 then a j else u9 (j - 22)) 22) else none))))))] ++ (W_St G (sh a 2) v ++ [])) ++ W_St G b u) ++ W_St G u9 q) H := hP
  have hD := vD_same (ws' := (([(a 0, .inr (5, [.ref (a 1)])), (a 1, .inl (G.2.2.2.2, 2, .inr (.inr (.inr (.inr (fun j => if j = 0 then some ((fun j => if j < 22 then a j else u9 (j - 22)) 2) else if j = 1 then some ((fun j => if j < 22 then a j else u9 (j - 22)) 22) else none))))))] ++ (W_St G (sh a 2) v ++ [])) ++ W_St G b u) ++ W_St G u9 q) hD rfl
  have e1 := W_St_cg G v (sh (fun j => if j < 22 then a j else u9 (j - 22)) 2) (sh a 2) (fun j hj => by show (if 2 + j < 22 then _ else _) = _; rw [if_pos (by omega)])
  have e2 : sh (fun j => if j < 22 then a j else u9 (j - 22)) 22 = u9 := by funext j; show (if 22 + j < 22 then _ else _) = _; rw [if_neg (by omega)]; congr 1; omega
  have eW : W_S3 G (fun j => if j < 22 then a j else u9 (j - 22)) (v, q) ++ W_St G b u = ([(a 0, .inr (5, [.ref (a 1)])), (a 1, .inl (G.2.2.2.2, 2, .inr (.inr (.inr (.inr (fun j => if j = 0 then some ((fun j => if j < 22 then a j else u9 (j - 22)) 2) else if j = 1 then some ((fun j => if j < 22 then a j else u9 (j - 22)) 22) else none))))))] ++ (W_St G (sh a 2) v ++ (W_St G u9 q ++ []))) ++ W_St G b u := by show (O_S3 G (fun j => if j < 22 then a j else u9 (j - 22)) (v, q) ++ (W_St G (sh (fun j => if j < 22 then a j else u9 (j - 22)) 2) v ++ (W_St G (sh (fun j => if j < 22 then a j else u9 (j - 22)) 22) q ++ []))) ++ _ = _; rw [e1, e2]; rfl
  have hP := vP_perm (prm_s1 _ _ _ _) hP
  have hD := vD_perm (prm_s1 _ _ _ _) hD
  rw [← eW] at hP hD
  refine W.widen (k := 20) (n := 2248) (Nat.le_of_ble_eq_true rfl) (Nat.le_of_ble_eq_true rfl) ?_
  exact kA (u := (fun j => if j < 22 then a j else u9 (j - 22))) hx hb hr hlk hP hD hS rfl d_Sl_store_38

set_option maxHeartbeats 4000000 in
set_option maxRecDepth 100000 in
theorem t_S2_store_0 (l : Launch) (G : GG) (a b : Nat → Nat) (v : V_S2) (u q : V_St) (hf : f_St_become St0 u = some q) : MA (S := Nat → Nat) l G y_Sl_store c_Sl_store 4 { frames := 3, cells := 20, slots := 2248, locals := 61 } (W_S2 G a v ++ W_St G b u) [.ref (a 0), .int (0 : Int32), .ref (b 0)] (fun a1 => W_S3 G a1 (q, v) ++ W_St G b u) (fun a1 => a1 0 = a 0) := by
  refine ofA "FloodDiary$Slots" (by decide +kernel) rfl (Nat.le_of_ble_eq_true rfl) (fun p e s m args below meth c A ls hx hb hr hml hown hts hlk hK hN hA hP hD hS hl => ?_)
  have hl : lv_has ls 4 [(0, .ref (a 0)), (1, .int (0 : Int32)), (2, .ref (b 0))] := hl
  refine lv_iload_n hx hb d_Sl_store_0 rfl (lv_at hl 1 rfl) ?_
  refine kcSN (cc := c_Sl_store) (own := "FloodDiary$Slots") (index := 17) (wc := ([] : va_W)) (wr := W_S2 G a v ++ W_St G b u) (wc' := ([] : va_W)) (ws' := W_S2 G a v ++ W_St G b u) hx hb hml hown hts hK hN hA hP hD hS (t_Fd_isSlot l G (0 : Int32) 1 fS_0) m_Fd_isSlot nsM_15 ⟨Nat.le_of_ble_eq_true rfl, Nat.le_of_ble_eq_true rfl⟩ (List.Perm.refl _) (List.Perm.refl _) rfl rfl (Nat.le_of_ble_eq_true rfl) hl.1 d_Sl_store_1 ⟨Nat.zero_le _, Nat.zero_le _⟩ (fun H locs hP hD hS => ?_)
  refine lv_if_eq (tgt := 38) hx hb d_Sl_store_4 (by decide) (fun c_9 => absurd c_9 (by decide)) (fun _ => ?_)
  refine lv_aload_n hx hb d_Sl_store_7 rfl (lv_at hl 0 rfl) ?_
  refine va_get (D := G.1) (ci := 5) (v := .ref (a 1)) (C := R_Sl) (T := T_Sl) (N := 1) hx hb hts in_Sl hown hK hP 0 rfl rfl 0 (by decide) (hts _ k_172) (fun _ h9 => h9) rfl d_Sl_store_8 ?_
  refine lv_iload_n hx hb d_Sl_store_11 rfl (lv_at hl 1 rfl) ?_
  refine va_aldq (C := "FloodDiary$State") hx hb hK hP 1 3 rfl rfl (by unfold vp_in; decide) d_Sl_store_12 ?_
  refine W.eq (g2 := F0 m 13 ls [.null]) rfl ?_
  refine lv_astore_nN (lv' := [(3, .null), (0, .ref (a 0)), (1, .int (0 : Int32)), (2, .ref (b 0))]) hx hb d_Sl_store_13 rfl hl (by decide) rfl (fun ls hl => ?_)
  refine lv_aload_nN hx hb d_Sl_store_14 rfl (lv_at hl 0 rfl) ?_
  refine lv_ifnonnullN hx hb d_Sl_store_15 ?_
  refine va_new (ci := 6) (fs := [.null, .null, .null, .int 0, .int 0, .int 0, .int 0, .int 0, .int 0]) (C := R_St) (T := T_St) (N := 9) hx hb hts in_St ty_St ty_St_ok hown (hts _ k_171) (hts _ k_22) (hts _ k_2) hK hP hD hS hA rfl (fun j hj => by rcases (show j = 0 ∨ j = 1 ∨ j = 2 ∨ j = 3 ∨ j = 4 ∨ j = 5 ∨ j = 6 ∨ j = 7 ∨ j = 8 by omega) with rfl | rfl | rfl | rfl | rfl | rfl | rfl | rfl | rfl <;> rfl) (Nat.le_of_ble_eq_true rfl) (Nat.le_of_ble_eq_true rfl) d_Sl_store_18 (fun q9 H hP hD hS => ?_)
  refine lv_dup hx hb d_Sl_store_21 rfl ?_
  refine kcIN (cc := c_Sl_store) (own := "FloodDiary$Slots") (index := 21) (wr := W_S2 G a v ++ W_St G b u) hx hb hml hown hts hK hN hA hP hD hS (t_St_init l G q9) ⟨k_24, k_2, k_25, by decide +kernel, by decide +kernel, by decide +kernel⟩ nsM_16 ⟨Nat.le_of_ble_eq_true rfl, Nat.le_of_ble_eq_true rfl⟩ (List.perm_append_comm) rfl (Nat.le_of_ble_eq_true rfl) hl.1 d_Sl_store_22 ⟨Nat.le_of_ble_eq_true rfl, Nat.le_of_ble_eq_true rfl⟩ (fun u9 H locs hu hP2 hD2 hS => ?_)
  have hu : u9 0 = q9 := hu
  subst hu
  have hP : va_P G.1 vwCl ((W_S2 G a v ++ W_St G b u) ++ W_St G u9 St0) H := hP2
  have hD : va_D A ((W_S2 G a v ++ W_St G b u) ++ W_St G u9 St0) := hD2
  refine lv_astore_n (lv' := [(3, .ref (u9 0)), (0, .ref (a 0)), (1, .int (0 : Int32)), (2, .ref (b 0))]) hx hb d_Sl_store_25 rfl hl (by decide) rfl (fun ls hl => ?_)
  refine lv_aload_n hx hb d_Sl_store_26 rfl (lv_at hl 1 rfl) ?_
  refine va_get (D := G.1) (ci := 5) (v := .ref (a 1)) (C := R_Sl) (T := T_Sl) (N := 1) hx hb hts in_Sl hown hK hP 0 rfl rfl 0 (by decide) (hts _ k_172) (fun _ h9 => h9) rfl d_Sl_store_27 ?_
  refine lv_iload_n hx hb d_Sl_store_30 rfl (lv_at hl 2 rfl) ?_
  refine lv_aload_n hx hb d_Sl_store_31 rfl (lv_at hl 0 rfl) ?_
  refine va_astq hx hb hK hP hD hS 1 3 42 6 rfl rfl rfl rfl (by unfold vp_in; decide) d_Sl_store_32 (fun H locs hP hD hS => ?_)
  have hP : va_P G.1 vwCl ((([(a 0, .inr (5, [.ref (a 1)])), (a 1, .inl (G.2.2.2.2, 2, .inr (.inr (.inr (.inr (va_up (fun j => if j = 1 then some (a 2) else none) 0 (some (u9 0))))))))] ++ (W_St G (sh a 2) v ++ [])) ++ W_St G b u) ++ W_St G u9 St0) H := hP
  have hD : va_D A ((([(a 0, .inr (5, [.ref (a 1)])), (a 1, .inl (G.2.2.2.2, 2, .inr (.inr (.inr (.inr (va_up (fun j => if j = 1 then some (a 2) else none) 0 (some (u9 0))))))))] ++ (W_St G (sh a 2) v ++ [])) ++ W_St G b u) ++ W_St G u9 St0) := hD
  refine lv_aload_n hx hb d_Sl_store_33 rfl (lv_at hl 0 rfl) ?_
  refine lv_aload_n hx hb d_Sl_store_34 rfl (lv_at hl 3 rfl) ?_
  refine kcVv (cc := c_Sl_store) (own := "FloodDiary$Slots") (index := 22) (wc := W_St G u9 St0 ++ W_St G b u) (wr := ([(a 0, .inr (5, [.ref (a 1)])), (a 1, .inl (G.2.2.2.2, 2, .inr (.inr (.inr (.inr (va_up (fun j => if j = 1 then some (a 2) else none) 0 (some (u9 0))))))))] ++ (W_St G (sh a 2) v ++ [])) ++ ([] : va_W)) (wc' := W_St G u9 q ++ W_St G b u) (ws' := (([(a 0, .inr (5, [.ref (a 1)])), (a 1, .inl (G.2.2.2.2, 2, .inr (.inr (.inr (.inr (va_up (fun j => if j = 1 then some (a 2) else none) 0 (some (u9 0))))))))] ++ (W_St G (sh a 2) v ++ [])) ++ W_St G b u) ++ W_St G u9 q) hx hb hml hown hts hK hN hA hP hD hS (t_St_become l G u9 b St0 u q hf) m_St_become k_734 ⟨Nat.le_of_ble_eq_true rfl, Nat.le_of_ble_eq_true rfl⟩ (pm_49 ([(a 0, .inr (5, [.ref (a 1)])), (a 1, .inl (G.2.2.2.2, 2, .inr (.inr (.inr (.inr (va_up (fun j => if j = 1 then some (a 2) else none) 0 (some (u9 0))))))))] ++ (W_St G (sh a 2) v ++ [])) (W_St G b u) (W_St G u9 St0)) (pm_49 ([(a 0, .inr (5, [.ref (a 1)])), (a 1, .inl (G.2.2.2.2, 2, .inr (.inr (.inr (.inr (va_up (fun j => if j = 1 then some (a 2) else none) 0 (some (u9 0))))))))] ++ (W_St G (sh a 2) v ++ [])) (W_St G b u) (W_St G u9 q)).symm 6 0 rfl rfl rfl rfl rfl (Nat.le_of_ble_eq_true rfl) hl.1 d_Sl_store_35 ⟨Nat.le_of_ble_eq_true rfl, Nat.le_of_ble_eq_true rfl⟩ (fun H locs hP hD hS => ?_)
  have hP := vP_swap (x := [(a 0, .inr (5, [.ref (a 1)]))]) (e' := (2, .inr (.inr (.inr (.inr (fun j => if j = 0 then some ((fun j => if j < 2 then a j else if j < 22 then u9 (j - 2) else a (j - 20)) 2) else if j = 1 then some ((fun j => if j < 2 then a j else if j < 22 then u9 (j - 2) else a (j - 20)) 22) else none)))))) hP (cellQ (fun j hj => by rcases (show j = 0 ∨ j = 1 by omega) with rfl | rfl <;> rfl))
  have hP : va_P G.1 vwCl ((([(a 0, .inr (5, [.ref (a 1)])), (a 1, .inl (G.2.2.2.2, 2, .inr (.inr (.inr (.inr (fun j => if j = 0 then some ((fun j => if j < 2 then a j else if j < 22 then u9 (j - 2) else a (j - 20)) 2) else if j = 1 then some ((fun j => if j < 2 then a j else if j < 22 then u9 (j - 2) else a (j - 20)) 22) else none))))))] ++ (W_St G (sh a 2) v ++ [])) ++ W_St G b u) ++ W_St G u9 q) H := hP
  have hD := vD_same (ws' := (([(a 0, .inr (5, [.ref (a 1)])), (a 1, .inl (G.2.2.2.2, 2, .inr (.inr (.inr (.inr (fun j => if j = 0 then some ((fun j => if j < 2 then a j else if j < 22 then u9 (j - 2) else a (j - 20)) 2) else if j = 1 then some ((fun j => if j < 2 then a j else if j < 22 then u9 (j - 2) else a (j - 20)) 22) else none))))))] ++ (W_St G (sh a 2) v ++ [])) ++ W_St G b u) ++ W_St G u9 q) hD rfl
  have e1 := W_St_cg G q (sh (fun j => if j < 2 then a j else if j < 22 then u9 (j - 2) else a (j - 20)) 2) u9 (fun j hj => by show (if 2 + j < 2 then _ else _) = _; rw [if_neg (by omega), if_pos (by omega)]; congr 1; omega)
  have e2 : sh (fun j => if j < 2 then a j else if j < 22 then u9 (j - 2) else a (j - 20)) 22 = sh a 2 := by funext j; show (if 22 + j < 2 then _ else _) = _; rw [if_neg (by omega), if_neg (by omega)]; show a _ = a _; congr 1; omega
  have eW : W_S3 G (fun j => if j < 2 then a j else if j < 22 then u9 (j - 2) else a (j - 20)) (q, v) ++ W_St G b u = ([(a 0, .inr (5, [.ref (a 1)])), (a 1, .inl (G.2.2.2.2, 2, .inr (.inr (.inr (.inr (fun j => if j = 0 then some ((fun j => if j < 2 then a j else if j < 22 then u9 (j - 2) else a (j - 20)) 2) else if j = 1 then some ((fun j => if j < 2 then a j else if j < 22 then u9 (j - 2) else a (j - 20)) 22) else none))))))] ++ (W_St G u9 q ++ (W_St G (sh a 2) v ++ []))) ++ W_St G b u := by show (O_S3 G (fun j => if j < 2 then a j else if j < 22 then u9 (j - 2) else a (j - 20)) (q, v) ++ (W_St G (sh (fun j => if j < 2 then a j else if j < 22 then u9 (j - 2) else a (j - 20)) 2) q ++ (W_St G (sh (fun j => if j < 2 then a j else if j < 22 then u9 (j - 2) else a (j - 20)) 22) v ++ []))) ++ _ = _; rw [e1, e2]; rfl
  have hP := vP_perm (prm_s2 _ _ _ _) hP
  have hD := vD_perm (prm_s2 _ _ _ _) hD
  rw [← eW] at hP hD
  refine W.widen (k := 20) (n := 2248) (Nat.le_of_ble_eq_true rfl) (Nat.le_of_ble_eq_true rfl) ?_
  exact kA (u := (fun j => if j < 2 then a j else if j < 22 then u9 (j - 2) else a (j - 20))) hx hb hr hlk hP hD hS rfl d_Sl_store_38

set_option maxHeartbeats 4000000 in
set_option maxRecDepth 100000 in
theorem t_Fd_keep_S0_0 (l : Launch) (G : GG) (a b : Nat → Nat) (w : V_S0) (v : V_Fd) (q : V_St) (hst : f_St_become St0 v.1 = some q) : MAi (S := Nat → Nat) l G y_Fd_keep c_Fd_keep 2 (some .int) { frames := 4, cells := 20, slots := 2248, locals := 84 } (W_Fd G a (b 0) (W_S0 G b w) v) [.ref (a 0), .int (0 : Int32)] (fun b1 => W_Fd G a (b1 0) (W_S1 G b1 q) v) (fun b1 => b1 0 = b 0) v.1.2.1.2.2.2.2.2.2.2.1 := by
  refine ofAi "FloodDiary" (by decide +kernel) rfl (Nat.le_of_ble_eq_true rfl) (fun p e s m args below meth c A ls hx hb hr hml hown hts hlk hK hN hA hP hD hS hl => ?_)
  have hl : lv_has ls 2 [(0, .ref (a 0)), (1, .int (0 : Int32))] := hl
  refine lv_iload_n hx hb d_Fd_keep_0 rfl (lv_at hl 1 rfl) ?_
  refine kcS (cc := c_Fd_keep) (own := "FloodDiary") (index := 173) (wc := ([] : va_W)) (wr := W_Fd G a (b 0) (W_S0 G b w) v) (wc' := ([] : va_W)) (ws' := W_Fd G a (b 0) (W_S0 G b w) v) hx hb hml hown hts hK hN hA hP hD hS (t_Fd_isSlot l G (0 : Int32) 1 fS_0) m_Fd_isSlot k_725 ⟨Nat.le_of_ble_eq_true rfl, Nat.le_of_ble_eq_true rfl⟩ (List.Perm.refl _) (List.Perm.refl _) rfl rfl (Nat.le_of_ble_eq_true rfl) hl.1 d_Fd_keep_1 ⟨Nat.zero_le _, Nat.zero_le _⟩ (fun H locs hP hD hS => ?_)
  refine lv_if_ne (tgt := 10) hx hb d_Fd_keep_4 (by decide) (fun _ => ?_) (fun c_9 => absurd c_9 (by decide))
  refine lv_aload_n hx hb d_Fd_keep_10 rfl (lv_at hl 0 rfl) ?_
  refine va_get (D := G.1) (ci := 8) (v := .ref (b 0)) (C := R_Fd) (T := T_Fd) (N := 6) hx hb hts in_Fd hown hK hP 0 rfl rfl 3 (by decide) (hts _ k_221) (fun _ h9 => h9) rfl d_Fd_keep_11 ?_
  refine lv_iload_n hx hb d_Fd_keep_14 rfl (lv_at hl 1 rfl) ?_
  refine lv_aload_n hx hb d_Fd_keep_15 rfl (lv_at hl 0 rfl) ?_
  refine va_get (D := G.1) (ci := 8) (v := .ref (a 1)) (C := R_Fd) (T := T_Fd) (N := 6) hx hb hts in_Fd hown hK hP 0 rfl rfl 0 (by decide) (hts _ k_218) (fun _ h9 => h9) rfl d_Fd_keep_16 ?_
  refine kcAv (cc := c_Fd_keep) (own := "FloodDiary") (index := 176) (wc := W_S0 G b w ++ W_St G (sh a 1) v.1) (wr := O_Fd G a (b 0) ++ (W_St G (sh a 21) v.2.1 ++ (W_Pd G (sh a 41) v.2.2.1 ++ (W_Or G (sh a 43) v.2.2.2.1 ++ (W_Hi G (sh a 48) v.2.2.2.2 ++ ([] : va_W)))))) hx hb hml hown hts hK hN hA hP hD hS (t_S0_store_0 l G b (sh a 1) w v.1 q hst) m_Sl_store k_728 ⟨Nat.le_of_ble_eq_true rfl, Nat.le_of_ble_eq_true rfl⟩ (pm_kp (O_Fd G a (b 0)) (W_St G (sh a 1) v.1) (W_St G (sh a 21) v.2.1) (W_Pd G (sh a 41) v.2.2.1) (W_Or G (sh a 43) v.2.2.2.1) (W_Hi G (sh a 48) v.2.2.2.2) (W_S0 G b w)) 5 0 rfl rfl rfl rfl rfl (Nat.le_of_ble_eq_true rfl) hl.1 d_Fd_keep_19 ⟨Nat.le_of_ble_eq_true rfl, Nat.le_of_ble_eq_true rfl⟩ (fun b1 H locs hu hP hD hS => ?_)
  have hu : b1 0 = b 0 := hu
  have hP := vP_perm (pm_kp (O_Fd G a (b 0)) (W_St G (sh a 1) v.1) (W_St G (sh a 21) v.2.1) (W_Pd G (sh a 41) v.2.2.1) (W_Or G (sh a 43) v.2.2.2.1) (W_Hi G (sh a 48) v.2.2.2.2) (W_S1 G b1 q)).symm hP
  have hD := vD_perm (pm_kp (O_Fd G a (b 0)) (W_St G (sh a 1) v.1) (W_St G (sh a 21) v.2.1) (W_Pd G (sh a 41) v.2.2.1) (W_Or G (sh a 43) v.2.2.2.1) (W_Hi G (sh a 48) v.2.2.2.2) (W_S1 G b1 q)).symm hD
  have hP : va_P G.1 vwCl (W_Fd G a (b 0) (W_S1 G b1 q) v) H := hP
  have hD : va_D A (W_Fd G a (b 0) (W_S1 G b1 q) v) := hD
  refine lv_aload_n hx hb d_Fd_keep_22 rfl (lv_at hl 0 rfl) ?_
  refine va_get (D := G.1) (ci := 8) (v := .ref (a 1)) (C := R_Fd) (T := T_Fd) (N := 6) hx hb hts in_Fd hown hK hP 0 rfl rfl 0 (by decide) (hts _ k_218) (fun _ h9 => h9) rfl d_Fd_keep_23 ?_
  refine va_getN (D := G.1) (ci := 6) (v := .ref (a 7)) (C := R_St) (T := T_St) (N := 9) (host := "FloodDiary") hx hb hts in_St hown hK hP 1 rfl rfl 1 (by decide) (va_Nw.use rfl (hN.1 _ nsF_6)) (fun _ h9 => h9) rfl d_Fd_keep_26 ?_
  refine va_getN (D := G.1) (ci := 0) (v := .int v.1.2.1.2.2.2.2.2.2.2.1) (C := R_Dy) (T := T_Dy) (N := 9) (host := "FloodDiary") hx hb hts in_Dy hown hK hP 7 rfl rfl 7 (by decide) (va_Nw.use rfl (hN.1 _ nsF_2)) (fun _ h9 => h9) rfl d_Fd_keep_29 ?_
  rw [← hu] at hP hD
  refine W.widen (k := 20) (n := 2248) (Nat.le_of_ble_eq_true rfl) (Nat.le_of_ble_eq_true rfl) ?_
  exact kAi (u := b1) hx hb hr hlk hP hD hS hu d_Fd_keep_32

set_option maxHeartbeats 4000000 in
set_option maxRecDepth 100000 in
theorem t_Fd_keep_S0_1 (l : Launch) (G : GG) (a b : Nat → Nat) (w : V_S0) (v : V_Fd) (q : V_St) (hst : f_St_become St0 v.1 = some q) : MAi (S := Nat → Nat) l G y_Fd_keep c_Fd_keep 2 (some .int) { frames := 4, cells := 20, slots := 2248, locals := 84 } (W_Fd G a (b 0) (W_S0 G b w) v) [.ref (a 0), .int (1 : Int32)] (fun b1 => W_Fd G a (b1 0) (W_S2 G b1 q) v) (fun b1 => b1 0 = b 0) v.1.2.1.2.2.2.2.2.2.2.1 := by
  refine ofAi "FloodDiary" (by decide +kernel) rfl (Nat.le_of_ble_eq_true rfl) (fun p e s m args below meth c A ls hx hb hr hml hown hts hlk hK hN hA hP hD hS hl => ?_)
  have hl : lv_has ls 2 [(0, .ref (a 0)), (1, .int (1 : Int32))] := hl
  refine lv_iload_n hx hb d_Fd_keep_0 rfl (lv_at hl 1 rfl) ?_
  refine kcS (cc := c_Fd_keep) (own := "FloodDiary") (index := 173) (wc := ([] : va_W)) (wr := W_Fd G a (b 0) (W_S0 G b w) v) (wc' := ([] : va_W)) (ws' := W_Fd G a (b 0) (W_S0 G b w) v) hx hb hml hown hts hK hN hA hP hD hS (t_Fd_isSlot l G (1 : Int32) 1 fS_1) m_Fd_isSlot k_725 ⟨Nat.le_of_ble_eq_true rfl, Nat.le_of_ble_eq_true rfl⟩ (List.Perm.refl _) (List.Perm.refl _) rfl rfl (Nat.le_of_ble_eq_true rfl) hl.1 d_Fd_keep_1 ⟨Nat.zero_le _, Nat.zero_le _⟩ (fun H locs hP hD hS => ?_)
  refine lv_if_ne (tgt := 10) hx hb d_Fd_keep_4 (by decide) (fun _ => ?_) (fun c_9 => absurd c_9 (by decide))
  refine lv_aload_n hx hb d_Fd_keep_10 rfl (lv_at hl 0 rfl) ?_
  refine va_get (D := G.1) (ci := 8) (v := .ref (b 0)) (C := R_Fd) (T := T_Fd) (N := 6) hx hb hts in_Fd hown hK hP 0 rfl rfl 3 (by decide) (hts _ k_221) (fun _ h9 => h9) rfl d_Fd_keep_11 ?_
  refine lv_iload_n hx hb d_Fd_keep_14 rfl (lv_at hl 1 rfl) ?_
  refine lv_aload_n hx hb d_Fd_keep_15 rfl (lv_at hl 0 rfl) ?_
  refine va_get (D := G.1) (ci := 8) (v := .ref (a 1)) (C := R_Fd) (T := T_Fd) (N := 6) hx hb hts in_Fd hown hK hP 0 rfl rfl 0 (by decide) (hts _ k_218) (fun _ h9 => h9) rfl d_Fd_keep_16 ?_
  refine kcAv (cc := c_Fd_keep) (own := "FloodDiary") (index := 176) (wc := W_S0 G b w ++ W_St G (sh a 1) v.1) (wr := O_Fd G a (b 0) ++ (W_St G (sh a 21) v.2.1 ++ (W_Pd G (sh a 41) v.2.2.1 ++ (W_Or G (sh a 43) v.2.2.2.1 ++ (W_Hi G (sh a 48) v.2.2.2.2 ++ ([] : va_W)))))) hx hb hml hown hts hK hN hA hP hD hS (t_S0_store_1 l G b (sh a 1) w v.1 q hst) m_Sl_store k_728 ⟨Nat.le_of_ble_eq_true rfl, Nat.le_of_ble_eq_true rfl⟩ (pm_kp (O_Fd G a (b 0)) (W_St G (sh a 1) v.1) (W_St G (sh a 21) v.2.1) (W_Pd G (sh a 41) v.2.2.1) (W_Or G (sh a 43) v.2.2.2.1) (W_Hi G (sh a 48) v.2.2.2.2) (W_S0 G b w)) 5 0 rfl rfl rfl rfl rfl (Nat.le_of_ble_eq_true rfl) hl.1 d_Fd_keep_19 ⟨Nat.le_of_ble_eq_true rfl, Nat.le_of_ble_eq_true rfl⟩ (fun b1 H locs hu hP hD hS => ?_)
  have hu : b1 0 = b 0 := hu
  have hP := vP_perm (pm_kp (O_Fd G a (b 0)) (W_St G (sh a 1) v.1) (W_St G (sh a 21) v.2.1) (W_Pd G (sh a 41) v.2.2.1) (W_Or G (sh a 43) v.2.2.2.1) (W_Hi G (sh a 48) v.2.2.2.2) (W_S2 G b1 q)).symm hP
  have hD := vD_perm (pm_kp (O_Fd G a (b 0)) (W_St G (sh a 1) v.1) (W_St G (sh a 21) v.2.1) (W_Pd G (sh a 41) v.2.2.1) (W_Or G (sh a 43) v.2.2.2.1) (W_Hi G (sh a 48) v.2.2.2.2) (W_S2 G b1 q)).symm hD
  have hP : va_P G.1 vwCl (W_Fd G a (b 0) (W_S2 G b1 q) v) H := hP
  have hD : va_D A (W_Fd G a (b 0) (W_S2 G b1 q) v) := hD
  refine lv_aload_n hx hb d_Fd_keep_22 rfl (lv_at hl 0 rfl) ?_
  refine va_get (D := G.1) (ci := 8) (v := .ref (a 1)) (C := R_Fd) (T := T_Fd) (N := 6) hx hb hts in_Fd hown hK hP 0 rfl rfl 0 (by decide) (hts _ k_218) (fun _ h9 => h9) rfl d_Fd_keep_23 ?_
  refine va_getN (D := G.1) (ci := 6) (v := .ref (a 7)) (C := R_St) (T := T_St) (N := 9) (host := "FloodDiary") hx hb hts in_St hown hK hP 1 rfl rfl 1 (by decide) (va_Nw.use rfl (hN.1 _ nsF_6)) (fun _ h9 => h9) rfl d_Fd_keep_26 ?_
  refine va_getN (D := G.1) (ci := 0) (v := .int v.1.2.1.2.2.2.2.2.2.2.1) (C := R_Dy) (T := T_Dy) (N := 9) (host := "FloodDiary") hx hb hts in_Dy hown hK hP 7 rfl rfl 7 (by decide) (va_Nw.use rfl (hN.1 _ nsF_2)) (fun _ h9 => h9) rfl d_Fd_keep_29 ?_
  rw [← hu] at hP hD
  refine W.widen (k := 20) (n := 2248) (Nat.le_of_ble_eq_true rfl) (Nat.le_of_ble_eq_true rfl) ?_
  exact kAi (u := b1) hx hb hr hlk hP hD hS hu d_Fd_keep_32

set_option maxHeartbeats 4000000 in
set_option maxRecDepth 100000 in
theorem t_Fd_keep_S1_0 (l : Launch) (G : GG) (a b : Nat → Nat) (w : V_S1) (v : V_Fd) (q : V_St) (hst : f_S1_store_0 w v.1 = some q) : MAi (S := Nat → Nat) l G y_Fd_keep c_Fd_keep 2 (some .int) { frames := 4, cells := 20, slots := 2248, locals := 84 } (W_Fd G a (b 0) (W_S1 G b w) v) [.ref (a 0), .int (0 : Int32)] (fun b1 => W_Fd G a (b1 0) (W_S1 G b1 q) v) (fun b1 => b1 0 = b 0) v.1.2.1.2.2.2.2.2.2.2.1 := by
  refine ofAi "FloodDiary" (by decide +kernel) rfl (Nat.le_of_ble_eq_true rfl) (fun p e s m args below meth c A ls hx hb hr hml hown hts hlk hK hN hA hP hD hS hl => ?_)
  have hl : lv_has ls 2 [(0, .ref (a 0)), (1, .int (0 : Int32))] := hl
  refine lv_iload_n hx hb d_Fd_keep_0 rfl (lv_at hl 1 rfl) ?_
  refine kcS (cc := c_Fd_keep) (own := "FloodDiary") (index := 173) (wc := ([] : va_W)) (wr := W_Fd G a (b 0) (W_S1 G b w) v) (wc' := ([] : va_W)) (ws' := W_Fd G a (b 0) (W_S1 G b w) v) hx hb hml hown hts hK hN hA hP hD hS (t_Fd_isSlot l G (0 : Int32) 1 fS_0) m_Fd_isSlot k_725 ⟨Nat.le_of_ble_eq_true rfl, Nat.le_of_ble_eq_true rfl⟩ (List.Perm.refl _) (List.Perm.refl _) rfl rfl (Nat.le_of_ble_eq_true rfl) hl.1 d_Fd_keep_1 ⟨Nat.zero_le _, Nat.zero_le _⟩ (fun H locs hP hD hS => ?_)
  refine lv_if_ne (tgt := 10) hx hb d_Fd_keep_4 (by decide) (fun _ => ?_) (fun c_9 => absurd c_9 (by decide))
  refine lv_aload_n hx hb d_Fd_keep_10 rfl (lv_at hl 0 rfl) ?_
  refine va_get (D := G.1) (ci := 8) (v := .ref (b 0)) (C := R_Fd) (T := T_Fd) (N := 6) hx hb hts in_Fd hown hK hP 0 rfl rfl 3 (by decide) (hts _ k_221) (fun _ h9 => h9) rfl d_Fd_keep_11 ?_
  refine lv_iload_n hx hb d_Fd_keep_14 rfl (lv_at hl 1 rfl) ?_
  refine lv_aload_n hx hb d_Fd_keep_15 rfl (lv_at hl 0 rfl) ?_
  refine va_get (D := G.1) (ci := 8) (v := .ref (a 1)) (C := R_Fd) (T := T_Fd) (N := 6) hx hb hts in_Fd hown hK hP 0 rfl rfl 0 (by decide) (hts _ k_218) (fun _ h9 => h9) rfl d_Fd_keep_16 ?_
  refine kcVv (cc := c_Fd_keep) (own := "FloodDiary") (index := 176) (wc := W_S1 G b w ++ W_St G (sh a 1) v.1) (wr := O_Fd G a (b 0) ++ (W_St G (sh a 21) v.2.1 ++ (W_Pd G (sh a 41) v.2.2.1 ++ (W_Or G (sh a 43) v.2.2.2.1 ++ (W_Hi G (sh a 48) v.2.2.2.2 ++ ([] : va_W)))))) (wc' := W_S1 G b q ++ W_St G (sh a 1) v.1) (ws' := W_Fd G a (b 0) (W_S1 G b q) v) hx hb hml hown hts hK hN hA hP hD hS (t_S1_store_0 l G b (sh a 1) w v.1 q hst) m_Sl_store k_728 ⟨Nat.le_of_ble_eq_true rfl, Nat.le_of_ble_eq_true rfl⟩ (pm_kp (O_Fd G a (b 0)) (W_St G (sh a 1) v.1) (W_St G (sh a 21) v.2.1) (W_Pd G (sh a 41) v.2.2.1) (W_Or G (sh a 43) v.2.2.2.1) (W_Hi G (sh a 48) v.2.2.2.2) (W_S1 G b w)) (pm_kp (O_Fd G a (b 0)) (W_St G (sh a 1) v.1) (W_St G (sh a 21) v.2.1) (W_Pd G (sh a 41) v.2.2.1) (W_Or G (sh a 43) v.2.2.2.1) (W_Hi G (sh a 48) v.2.2.2.2) (W_S1 G b q)).symm 5 0 rfl rfl rfl rfl rfl (Nat.le_of_ble_eq_true rfl) hl.1 d_Fd_keep_19 ⟨Nat.zero_le _, Nat.zero_le _⟩ (fun H locs hP hD hS => ?_)
  have hu : b 0 = b 0 := rfl
  have hP : va_P G.1 vwCl (W_Fd G a (b 0) (W_S1 G b q) v) H := hP
  have hD : va_D A (W_Fd G a (b 0) (W_S1 G b q) v) := hD
  refine lv_aload_n hx hb d_Fd_keep_22 rfl (lv_at hl 0 rfl) ?_
  refine va_get (D := G.1) (ci := 8) (v := .ref (a 1)) (C := R_Fd) (T := T_Fd) (N := 6) hx hb hts in_Fd hown hK hP 0 rfl rfl 0 (by decide) (hts _ k_218) (fun _ h9 => h9) rfl d_Fd_keep_23 ?_
  refine va_getN (D := G.1) (ci := 6) (v := .ref (a 7)) (C := R_St) (T := T_St) (N := 9) (host := "FloodDiary") hx hb hts in_St hown hK hP 1 rfl rfl 1 (by decide) (va_Nw.use rfl (hN.1 _ nsF_6)) (fun _ h9 => h9) rfl d_Fd_keep_26 ?_
  refine va_getN (D := G.1) (ci := 0) (v := .int v.1.2.1.2.2.2.2.2.2.2.1) (C := R_Dy) (T := T_Dy) (N := 9) (host := "FloodDiary") hx hb hts in_Dy hown hK hP 7 rfl rfl 7 (by decide) (va_Nw.use rfl (hN.1 _ nsF_2)) (fun _ h9 => h9) rfl d_Fd_keep_29 ?_
  rw [← hu] at hP hD
  refine W.widen (k := 20) (n := 2248) (Nat.le_of_ble_eq_true rfl) (Nat.le_of_ble_eq_true rfl) ?_
  exact kAi (u := b) hx hb hr hlk hP hD hS hu d_Fd_keep_32

set_option maxHeartbeats 4000000 in
set_option maxRecDepth 100000 in
theorem t_Fd_keep_S1_1 (l : Launch) (G : GG) (a b : Nat → Nat) (w : V_S1) (v : V_Fd) (q : V_St) (hst : f_St_become St0 v.1 = some q) : MAi (S := Nat → Nat) l G y_Fd_keep c_Fd_keep 2 (some .int) { frames := 4, cells := 20, slots := 2248, locals := 84 } (W_Fd G a (b 0) (W_S1 G b w) v) [.ref (a 0), .int (1 : Int32)] (fun b1 => W_Fd G a (b1 0) (W_S3 G b1 (w, q)) v) (fun b1 => b1 0 = b 0) v.1.2.1.2.2.2.2.2.2.2.1 := by
  refine ofAi "FloodDiary" (by decide +kernel) rfl (Nat.le_of_ble_eq_true rfl) (fun p e s m args below meth c A ls hx hb hr hml hown hts hlk hK hN hA hP hD hS hl => ?_)
  have hl : lv_has ls 2 [(0, .ref (a 0)), (1, .int (1 : Int32))] := hl
  refine lv_iload_n hx hb d_Fd_keep_0 rfl (lv_at hl 1 rfl) ?_
  refine kcS (cc := c_Fd_keep) (own := "FloodDiary") (index := 173) (wc := ([] : va_W)) (wr := W_Fd G a (b 0) (W_S1 G b w) v) (wc' := ([] : va_W)) (ws' := W_Fd G a (b 0) (W_S1 G b w) v) hx hb hml hown hts hK hN hA hP hD hS (t_Fd_isSlot l G (1 : Int32) 1 fS_1) m_Fd_isSlot k_725 ⟨Nat.le_of_ble_eq_true rfl, Nat.le_of_ble_eq_true rfl⟩ (List.Perm.refl _) (List.Perm.refl _) rfl rfl (Nat.le_of_ble_eq_true rfl) hl.1 d_Fd_keep_1 ⟨Nat.zero_le _, Nat.zero_le _⟩ (fun H locs hP hD hS => ?_)
  refine lv_if_ne (tgt := 10) hx hb d_Fd_keep_4 (by decide) (fun _ => ?_) (fun c_9 => absurd c_9 (by decide))
  refine lv_aload_n hx hb d_Fd_keep_10 rfl (lv_at hl 0 rfl) ?_
  refine va_get (D := G.1) (ci := 8) (v := .ref (b 0)) (C := R_Fd) (T := T_Fd) (N := 6) hx hb hts in_Fd hown hK hP 0 rfl rfl 3 (by decide) (hts _ k_221) (fun _ h9 => h9) rfl d_Fd_keep_11 ?_
  refine lv_iload_n hx hb d_Fd_keep_14 rfl (lv_at hl 1 rfl) ?_
  refine lv_aload_n hx hb d_Fd_keep_15 rfl (lv_at hl 0 rfl) ?_
  refine va_get (D := G.1) (ci := 8) (v := .ref (a 1)) (C := R_Fd) (T := T_Fd) (N := 6) hx hb hts in_Fd hown hK hP 0 rfl rfl 0 (by decide) (hts _ k_218) (fun _ h9 => h9) rfl d_Fd_keep_16 ?_
  refine kcAv (cc := c_Fd_keep) (own := "FloodDiary") (index := 176) (wc := W_S1 G b w ++ W_St G (sh a 1) v.1) (wr := O_Fd G a (b 0) ++ (W_St G (sh a 21) v.2.1 ++ (W_Pd G (sh a 41) v.2.2.1 ++ (W_Or G (sh a 43) v.2.2.2.1 ++ (W_Hi G (sh a 48) v.2.2.2.2 ++ ([] : va_W)))))) hx hb hml hown hts hK hN hA hP hD hS (t_S1_store_1 l G b (sh a 1) w v.1 q hst) m_Sl_store k_728 ⟨Nat.le_of_ble_eq_true rfl, Nat.le_of_ble_eq_true rfl⟩ (pm_kp (O_Fd G a (b 0)) (W_St G (sh a 1) v.1) (W_St G (sh a 21) v.2.1) (W_Pd G (sh a 41) v.2.2.1) (W_Or G (sh a 43) v.2.2.2.1) (W_Hi G (sh a 48) v.2.2.2.2) (W_S1 G b w)) 5 0 rfl rfl rfl rfl rfl (Nat.le_of_ble_eq_true rfl) hl.1 d_Fd_keep_19 ⟨Nat.le_of_ble_eq_true rfl, Nat.le_of_ble_eq_true rfl⟩ (fun b1 H locs hu hP hD hS => ?_)
  have hu : b1 0 = b 0 := hu
  have hP := vP_perm (pm_kp (O_Fd G a (b 0)) (W_St G (sh a 1) v.1) (W_St G (sh a 21) v.2.1) (W_Pd G (sh a 41) v.2.2.1) (W_Or G (sh a 43) v.2.2.2.1) (W_Hi G (sh a 48) v.2.2.2.2) (W_S3 G b1 (w, q))).symm hP
  have hD := vD_perm (pm_kp (O_Fd G a (b 0)) (W_St G (sh a 1) v.1) (W_St G (sh a 21) v.2.1) (W_Pd G (sh a 41) v.2.2.1) (W_Or G (sh a 43) v.2.2.2.1) (W_Hi G (sh a 48) v.2.2.2.2) (W_S3 G b1 (w, q))).symm hD
  have hP : va_P G.1 vwCl (W_Fd G a (b 0) (W_S3 G b1 (w, q)) v) H := hP
  have hD : va_D A (W_Fd G a (b 0) (W_S3 G b1 (w, q)) v) := hD
  refine lv_aload_n hx hb d_Fd_keep_22 rfl (lv_at hl 0 rfl) ?_
  refine va_get (D := G.1) (ci := 8) (v := .ref (a 1)) (C := R_Fd) (T := T_Fd) (N := 6) hx hb hts in_Fd hown hK hP 0 rfl rfl 0 (by decide) (hts _ k_218) (fun _ h9 => h9) rfl d_Fd_keep_23 ?_
  refine va_getN (D := G.1) (ci := 6) (v := .ref (a 7)) (C := R_St) (T := T_St) (N := 9) (host := "FloodDiary") hx hb hts in_St hown hK hP 1 rfl rfl 1 (by decide) (va_Nw.use rfl (hN.1 _ nsF_6)) (fun _ h9 => h9) rfl d_Fd_keep_26 ?_
  refine va_getN (D := G.1) (ci := 0) (v := .int v.1.2.1.2.2.2.2.2.2.2.1) (C := R_Dy) (T := T_Dy) (N := 9) (host := "FloodDiary") hx hb hts in_Dy hown hK hP 7 rfl rfl 7 (by decide) (va_Nw.use rfl (hN.1 _ nsF_2)) (fun _ h9 => h9) rfl d_Fd_keep_29 ?_
  rw [← hu] at hP hD
  refine W.widen (k := 20) (n := 2248) (Nat.le_of_ble_eq_true rfl) (Nat.le_of_ble_eq_true rfl) ?_
  exact kAi (u := b1) hx hb hr hlk hP hD hS hu d_Fd_keep_32

set_option maxHeartbeats 4000000 in
set_option maxRecDepth 100000 in
theorem t_Fd_keep_S2_0 (l : Launch) (G : GG) (a b : Nat → Nat) (w : V_S2) (v : V_Fd) (q : V_St) (hst : f_St_become St0 v.1 = some q) : MAi (S := Nat → Nat) l G y_Fd_keep c_Fd_keep 2 (some .int) { frames := 4, cells := 20, slots := 2248, locals := 84 } (W_Fd G a (b 0) (W_S2 G b w) v) [.ref (a 0), .int (0 : Int32)] (fun b1 => W_Fd G a (b1 0) (W_S3 G b1 (q, w)) v) (fun b1 => b1 0 = b 0) v.1.2.1.2.2.2.2.2.2.2.1 := by
  refine ofAi "FloodDiary" (by decide +kernel) rfl (Nat.le_of_ble_eq_true rfl) (fun p e s m args below meth c A ls hx hb hr hml hown hts hlk hK hN hA hP hD hS hl => ?_)
  have hl : lv_has ls 2 [(0, .ref (a 0)), (1, .int (0 : Int32))] := hl
  refine lv_iload_n hx hb d_Fd_keep_0 rfl (lv_at hl 1 rfl) ?_
  refine kcS (cc := c_Fd_keep) (own := "FloodDiary") (index := 173) (wc := ([] : va_W)) (wr := W_Fd G a (b 0) (W_S2 G b w) v) (wc' := ([] : va_W)) (ws' := W_Fd G a (b 0) (W_S2 G b w) v) hx hb hml hown hts hK hN hA hP hD hS (t_Fd_isSlot l G (0 : Int32) 1 fS_0) m_Fd_isSlot k_725 ⟨Nat.le_of_ble_eq_true rfl, Nat.le_of_ble_eq_true rfl⟩ (List.Perm.refl _) (List.Perm.refl _) rfl rfl (Nat.le_of_ble_eq_true rfl) hl.1 d_Fd_keep_1 ⟨Nat.zero_le _, Nat.zero_le _⟩ (fun H locs hP hD hS => ?_)
  refine lv_if_ne (tgt := 10) hx hb d_Fd_keep_4 (by decide) (fun _ => ?_) (fun c_9 => absurd c_9 (by decide))
  refine lv_aload_n hx hb d_Fd_keep_10 rfl (lv_at hl 0 rfl) ?_
  refine va_get (D := G.1) (ci := 8) (v := .ref (b 0)) (C := R_Fd) (T := T_Fd) (N := 6) hx hb hts in_Fd hown hK hP 0 rfl rfl 3 (by decide) (hts _ k_221) (fun _ h9 => h9) rfl d_Fd_keep_11 ?_
  refine lv_iload_n hx hb d_Fd_keep_14 rfl (lv_at hl 1 rfl) ?_
  refine lv_aload_n hx hb d_Fd_keep_15 rfl (lv_at hl 0 rfl) ?_
  refine va_get (D := G.1) (ci := 8) (v := .ref (a 1)) (C := R_Fd) (T := T_Fd) (N := 6) hx hb hts in_Fd hown hK hP 0 rfl rfl 0 (by decide) (hts _ k_218) (fun _ h9 => h9) rfl d_Fd_keep_16 ?_
  refine kcAv (cc := c_Fd_keep) (own := "FloodDiary") (index := 176) (wc := W_S2 G b w ++ W_St G (sh a 1) v.1) (wr := O_Fd G a (b 0) ++ (W_St G (sh a 21) v.2.1 ++ (W_Pd G (sh a 41) v.2.2.1 ++ (W_Or G (sh a 43) v.2.2.2.1 ++ (W_Hi G (sh a 48) v.2.2.2.2 ++ ([] : va_W)))))) hx hb hml hown hts hK hN hA hP hD hS (t_S2_store_0 l G b (sh a 1) w v.1 q hst) m_Sl_store k_728 ⟨Nat.le_of_ble_eq_true rfl, Nat.le_of_ble_eq_true rfl⟩ (pm_kp (O_Fd G a (b 0)) (W_St G (sh a 1) v.1) (W_St G (sh a 21) v.2.1) (W_Pd G (sh a 41) v.2.2.1) (W_Or G (sh a 43) v.2.2.2.1) (W_Hi G (sh a 48) v.2.2.2.2) (W_S2 G b w)) 5 0 rfl rfl rfl rfl rfl (Nat.le_of_ble_eq_true rfl) hl.1 d_Fd_keep_19 ⟨Nat.le_of_ble_eq_true rfl, Nat.le_of_ble_eq_true rfl⟩ (fun b1 H locs hu hP hD hS => ?_)
  have hu : b1 0 = b 0 := hu
  have hP := vP_perm (pm_kp (O_Fd G a (b 0)) (W_St G (sh a 1) v.1) (W_St G (sh a 21) v.2.1) (W_Pd G (sh a 41) v.2.2.1) (W_Or G (sh a 43) v.2.2.2.1) (W_Hi G (sh a 48) v.2.2.2.2) (W_S3 G b1 (q, w))).symm hP
  have hD := vD_perm (pm_kp (O_Fd G a (b 0)) (W_St G (sh a 1) v.1) (W_St G (sh a 21) v.2.1) (W_Pd G (sh a 41) v.2.2.1) (W_Or G (sh a 43) v.2.2.2.1) (W_Hi G (sh a 48) v.2.2.2.2) (W_S3 G b1 (q, w))).symm hD
  have hP : va_P G.1 vwCl (W_Fd G a (b 0) (W_S3 G b1 (q, w)) v) H := hP
  have hD : va_D A (W_Fd G a (b 0) (W_S3 G b1 (q, w)) v) := hD
  refine lv_aload_n hx hb d_Fd_keep_22 rfl (lv_at hl 0 rfl) ?_
  refine va_get (D := G.1) (ci := 8) (v := .ref (a 1)) (C := R_Fd) (T := T_Fd) (N := 6) hx hb hts in_Fd hown hK hP 0 rfl rfl 0 (by decide) (hts _ k_218) (fun _ h9 => h9) rfl d_Fd_keep_23 ?_
  refine va_getN (D := G.1) (ci := 6) (v := .ref (a 7)) (C := R_St) (T := T_St) (N := 9) (host := "FloodDiary") hx hb hts in_St hown hK hP 1 rfl rfl 1 (by decide) (va_Nw.use rfl (hN.1 _ nsF_6)) (fun _ h9 => h9) rfl d_Fd_keep_26 ?_
  refine va_getN (D := G.1) (ci := 0) (v := .int v.1.2.1.2.2.2.2.2.2.2.1) (C := R_Dy) (T := T_Dy) (N := 9) (host := "FloodDiary") hx hb hts in_Dy hown hK hP 7 rfl rfl 7 (by decide) (va_Nw.use rfl (hN.1 _ nsF_2)) (fun _ h9 => h9) rfl d_Fd_keep_29 ?_
  rw [← hu] at hP hD
  refine W.widen (k := 20) (n := 2248) (Nat.le_of_ble_eq_true rfl) (Nat.le_of_ble_eq_true rfl) ?_
  exact kAi (u := b1) hx hb hr hlk hP hD hS hu d_Fd_keep_32

set_option maxHeartbeats 4000000 in
set_option maxRecDepth 100000 in
theorem t_Fd_keep_S2_1 (l : Launch) (G : GG) (a b : Nat → Nat) (w : V_S2) (v : V_Fd) (q : V_St) (hst : f_S2_store_1 w v.1 = some q) : MAi (S := Nat → Nat) l G y_Fd_keep c_Fd_keep 2 (some .int) { frames := 4, cells := 20, slots := 2248, locals := 84 } (W_Fd G a (b 0) (W_S2 G b w) v) [.ref (a 0), .int (1 : Int32)] (fun b1 => W_Fd G a (b1 0) (W_S2 G b1 q) v) (fun b1 => b1 0 = b 0) v.1.2.1.2.2.2.2.2.2.2.1 := by
  refine ofAi "FloodDiary" (by decide +kernel) rfl (Nat.le_of_ble_eq_true rfl) (fun p e s m args below meth c A ls hx hb hr hml hown hts hlk hK hN hA hP hD hS hl => ?_)
  have hl : lv_has ls 2 [(0, .ref (a 0)), (1, .int (1 : Int32))] := hl
  refine lv_iload_n hx hb d_Fd_keep_0 rfl (lv_at hl 1 rfl) ?_
  refine kcS (cc := c_Fd_keep) (own := "FloodDiary") (index := 173) (wc := ([] : va_W)) (wr := W_Fd G a (b 0) (W_S2 G b w) v) (wc' := ([] : va_W)) (ws' := W_Fd G a (b 0) (W_S2 G b w) v) hx hb hml hown hts hK hN hA hP hD hS (t_Fd_isSlot l G (1 : Int32) 1 fS_1) m_Fd_isSlot k_725 ⟨Nat.le_of_ble_eq_true rfl, Nat.le_of_ble_eq_true rfl⟩ (List.Perm.refl _) (List.Perm.refl _) rfl rfl (Nat.le_of_ble_eq_true rfl) hl.1 d_Fd_keep_1 ⟨Nat.zero_le _, Nat.zero_le _⟩ (fun H locs hP hD hS => ?_)
  refine lv_if_ne (tgt := 10) hx hb d_Fd_keep_4 (by decide) (fun _ => ?_) (fun c_9 => absurd c_9 (by decide))
  refine lv_aload_n hx hb d_Fd_keep_10 rfl (lv_at hl 0 rfl) ?_
  refine va_get (D := G.1) (ci := 8) (v := .ref (b 0)) (C := R_Fd) (T := T_Fd) (N := 6) hx hb hts in_Fd hown hK hP 0 rfl rfl 3 (by decide) (hts _ k_221) (fun _ h9 => h9) rfl d_Fd_keep_11 ?_
  refine lv_iload_n hx hb d_Fd_keep_14 rfl (lv_at hl 1 rfl) ?_
  refine lv_aload_n hx hb d_Fd_keep_15 rfl (lv_at hl 0 rfl) ?_
  refine va_get (D := G.1) (ci := 8) (v := .ref (a 1)) (C := R_Fd) (T := T_Fd) (N := 6) hx hb hts in_Fd hown hK hP 0 rfl rfl 0 (by decide) (hts _ k_218) (fun _ h9 => h9) rfl d_Fd_keep_16 ?_
  refine kcVv (cc := c_Fd_keep) (own := "FloodDiary") (index := 176) (wc := W_S2 G b w ++ W_St G (sh a 1) v.1) (wr := O_Fd G a (b 0) ++ (W_St G (sh a 21) v.2.1 ++ (W_Pd G (sh a 41) v.2.2.1 ++ (W_Or G (sh a 43) v.2.2.2.1 ++ (W_Hi G (sh a 48) v.2.2.2.2 ++ ([] : va_W)))))) (wc' := W_S2 G b q ++ W_St G (sh a 1) v.1) (ws' := W_Fd G a (b 0) (W_S2 G b q) v) hx hb hml hown hts hK hN hA hP hD hS (t_S2_store_1 l G b (sh a 1) w v.1 q hst) m_Sl_store k_728 ⟨Nat.le_of_ble_eq_true rfl, Nat.le_of_ble_eq_true rfl⟩ (pm_kp (O_Fd G a (b 0)) (W_St G (sh a 1) v.1) (W_St G (sh a 21) v.2.1) (W_Pd G (sh a 41) v.2.2.1) (W_Or G (sh a 43) v.2.2.2.1) (W_Hi G (sh a 48) v.2.2.2.2) (W_S2 G b w)) (pm_kp (O_Fd G a (b 0)) (W_St G (sh a 1) v.1) (W_St G (sh a 21) v.2.1) (W_Pd G (sh a 41) v.2.2.1) (W_Or G (sh a 43) v.2.2.2.1) (W_Hi G (sh a 48) v.2.2.2.2) (W_S2 G b q)).symm 5 0 rfl rfl rfl rfl rfl (Nat.le_of_ble_eq_true rfl) hl.1 d_Fd_keep_19 ⟨Nat.zero_le _, Nat.zero_le _⟩ (fun H locs hP hD hS => ?_)
  have hu : b 0 = b 0 := rfl
  have hP : va_P G.1 vwCl (W_Fd G a (b 0) (W_S2 G b q) v) H := hP
  have hD : va_D A (W_Fd G a (b 0) (W_S2 G b q) v) := hD
  refine lv_aload_n hx hb d_Fd_keep_22 rfl (lv_at hl 0 rfl) ?_
  refine va_get (D := G.1) (ci := 8) (v := .ref (a 1)) (C := R_Fd) (T := T_Fd) (N := 6) hx hb hts in_Fd hown hK hP 0 rfl rfl 0 (by decide) (hts _ k_218) (fun _ h9 => h9) rfl d_Fd_keep_23 ?_
  refine va_getN (D := G.1) (ci := 6) (v := .ref (a 7)) (C := R_St) (T := T_St) (N := 9) (host := "FloodDiary") hx hb hts in_St hown hK hP 1 rfl rfl 1 (by decide) (va_Nw.use rfl (hN.1 _ nsF_6)) (fun _ h9 => h9) rfl d_Fd_keep_26 ?_
  refine va_getN (D := G.1) (ci := 0) (v := .int v.1.2.1.2.2.2.2.2.2.2.1) (C := R_Dy) (T := T_Dy) (N := 9) (host := "FloodDiary") hx hb hts in_Dy hown hK hP 7 rfl rfl 7 (by decide) (va_Nw.use rfl (hN.1 _ nsF_2)) (fun _ h9 => h9) rfl d_Fd_keep_29 ?_
  rw [← hu] at hP hD
  refine W.widen (k := 20) (n := 2248) (Nat.le_of_ble_eq_true rfl) (Nat.le_of_ble_eq_true rfl) ?_
  exact kAi (u := b) hx hb hr hlk hP hD hS hu d_Fd_keep_32

set_option maxHeartbeats 4000000 in
set_option maxRecDepth 100000 in
theorem t_Fd_keep_S3_0 (l : Launch) (G : GG) (a b : Nat → Nat) (w : V_S3) (v : V_Fd) (q : V_St) (hst : f_S3_store_0 w v.1 = some (q, w.2)) : MAi (S := Nat → Nat) l G y_Fd_keep c_Fd_keep 2 (some .int) { frames := 4, cells := 20, slots := 2248, locals := 84 } (W_Fd G a (b 0) (W_S3 G b w) v) [.ref (a 0), .int (0 : Int32)] (fun b1 => W_Fd G a (b1 0) (W_S3 G b1 (q, w.2)) v) (fun b1 => b1 0 = b 0) v.1.2.1.2.2.2.2.2.2.2.1 := by
  refine ofAi "FloodDiary" (by decide +kernel) rfl (Nat.le_of_ble_eq_true rfl) (fun p e s m args below meth c A ls hx hb hr hml hown hts hlk hK hN hA hP hD hS hl => ?_)
  have hl : lv_has ls 2 [(0, .ref (a 0)), (1, .int (0 : Int32))] := hl
  refine lv_iload_n hx hb d_Fd_keep_0 rfl (lv_at hl 1 rfl) ?_
  refine kcS (cc := c_Fd_keep) (own := "FloodDiary") (index := 173) (wc := ([] : va_W)) (wr := W_Fd G a (b 0) (W_S3 G b w) v) (wc' := ([] : va_W)) (ws' := W_Fd G a (b 0) (W_S3 G b w) v) hx hb hml hown hts hK hN hA hP hD hS (t_Fd_isSlot l G (0 : Int32) 1 fS_0) m_Fd_isSlot k_725 ⟨Nat.le_of_ble_eq_true rfl, Nat.le_of_ble_eq_true rfl⟩ (List.Perm.refl _) (List.Perm.refl _) rfl rfl (Nat.le_of_ble_eq_true rfl) hl.1 d_Fd_keep_1 ⟨Nat.zero_le _, Nat.zero_le _⟩ (fun H locs hP hD hS => ?_)
  refine lv_if_ne (tgt := 10) hx hb d_Fd_keep_4 (by decide) (fun _ => ?_) (fun c_9 => absurd c_9 (by decide))
  refine lv_aload_n hx hb d_Fd_keep_10 rfl (lv_at hl 0 rfl) ?_
  refine va_get (D := G.1) (ci := 8) (v := .ref (b 0)) (C := R_Fd) (T := T_Fd) (N := 6) hx hb hts in_Fd hown hK hP 0 rfl rfl 3 (by decide) (hts _ k_221) (fun _ h9 => h9) rfl d_Fd_keep_11 ?_
  refine lv_iload_n hx hb d_Fd_keep_14 rfl (lv_at hl 1 rfl) ?_
  refine lv_aload_n hx hb d_Fd_keep_15 rfl (lv_at hl 0 rfl) ?_
  refine va_get (D := G.1) (ci := 8) (v := .ref (a 1)) (C := R_Fd) (T := T_Fd) (N := 6) hx hb hts in_Fd hown hK hP 0 rfl rfl 0 (by decide) (hts _ k_218) (fun _ h9 => h9) rfl d_Fd_keep_16 ?_
  refine kcVv (cc := c_Fd_keep) (own := "FloodDiary") (index := 176) (wc := W_S3 G b w ++ W_St G (sh a 1) v.1) (wr := O_Fd G a (b 0) ++ (W_St G (sh a 21) v.2.1 ++ (W_Pd G (sh a 41) v.2.2.1 ++ (W_Or G (sh a 43) v.2.2.2.1 ++ (W_Hi G (sh a 48) v.2.2.2.2 ++ ([] : va_W)))))) (wc' := W_S3 G b (q, w.2) ++ W_St G (sh a 1) v.1) (ws' := W_Fd G a (b 0) (W_S3 G b (q, w.2)) v) hx hb hml hown hts hK hN hA hP hD hS (t_S3_store_0 l G b (sh a 1) w v.1 (q, w.2) hst) m_Sl_store k_728 ⟨Nat.le_of_ble_eq_true rfl, Nat.le_of_ble_eq_true rfl⟩ (pm_kp (O_Fd G a (b 0)) (W_St G (sh a 1) v.1) (W_St G (sh a 21) v.2.1) (W_Pd G (sh a 41) v.2.2.1) (W_Or G (sh a 43) v.2.2.2.1) (W_Hi G (sh a 48) v.2.2.2.2) (W_S3 G b w)) (pm_kp (O_Fd G a (b 0)) (W_St G (sh a 1) v.1) (W_St G (sh a 21) v.2.1) (W_Pd G (sh a 41) v.2.2.1) (W_Or G (sh a 43) v.2.2.2.1) (W_Hi G (sh a 48) v.2.2.2.2) (W_S3 G b (q, w.2))).symm 5 0 rfl rfl rfl rfl rfl (Nat.le_of_ble_eq_true rfl) hl.1 d_Fd_keep_19 ⟨Nat.zero_le _, Nat.zero_le _⟩ (fun H locs hP hD hS => ?_)
  have hu : b 0 = b 0 := rfl
  have hP : va_P G.1 vwCl (W_Fd G a (b 0) (W_S3 G b (q, w.2)) v) H := hP
  have hD : va_D A (W_Fd G a (b 0) (W_S3 G b (q, w.2)) v) := hD
  refine lv_aload_n hx hb d_Fd_keep_22 rfl (lv_at hl 0 rfl) ?_
  refine va_get (D := G.1) (ci := 8) (v := .ref (a 1)) (C := R_Fd) (T := T_Fd) (N := 6) hx hb hts in_Fd hown hK hP 0 rfl rfl 0 (by decide) (hts _ k_218) (fun _ h9 => h9) rfl d_Fd_keep_23 ?_
  refine va_getN (D := G.1) (ci := 6) (v := .ref (a 7)) (C := R_St) (T := T_St) (N := 9) (host := "FloodDiary") hx hb hts in_St hown hK hP 1 rfl rfl 1 (by decide) (va_Nw.use rfl (hN.1 _ nsF_6)) (fun _ h9 => h9) rfl d_Fd_keep_26 ?_
  refine va_getN (D := G.1) (ci := 0) (v := .int v.1.2.1.2.2.2.2.2.2.2.1) (C := R_Dy) (T := T_Dy) (N := 9) (host := "FloodDiary") hx hb hts in_Dy hown hK hP 7 rfl rfl 7 (by decide) (va_Nw.use rfl (hN.1 _ nsF_2)) (fun _ h9 => h9) rfl d_Fd_keep_29 ?_
  rw [← hu] at hP hD
  refine W.widen (k := 20) (n := 2248) (Nat.le_of_ble_eq_true rfl) (Nat.le_of_ble_eq_true rfl) ?_
  exact kAi (u := b) hx hb hr hlk hP hD hS hu d_Fd_keep_32

set_option maxHeartbeats 4000000 in
set_option maxRecDepth 100000 in
theorem t_Fd_keep_S3_1 (l : Launch) (G : GG) (a b : Nat → Nat) (w : V_S3) (v : V_Fd) (q : V_St) (hst : f_S3_store_1 w v.1 = some (w.1, q)) : MAi (S := Nat → Nat) l G y_Fd_keep c_Fd_keep 2 (some .int) { frames := 4, cells := 20, slots := 2248, locals := 84 } (W_Fd G a (b 0) (W_S3 G b w) v) [.ref (a 0), .int (1 : Int32)] (fun b1 => W_Fd G a (b1 0) (W_S3 G b1 (w.1, q)) v) (fun b1 => b1 0 = b 0) v.1.2.1.2.2.2.2.2.2.2.1 := by
  refine ofAi "FloodDiary" (by decide +kernel) rfl (Nat.le_of_ble_eq_true rfl) (fun p e s m args below meth c A ls hx hb hr hml hown hts hlk hK hN hA hP hD hS hl => ?_)
  have hl : lv_has ls 2 [(0, .ref (a 0)), (1, .int (1 : Int32))] := hl
  refine lv_iload_n hx hb d_Fd_keep_0 rfl (lv_at hl 1 rfl) ?_
  refine kcS (cc := c_Fd_keep) (own := "FloodDiary") (index := 173) (wc := ([] : va_W)) (wr := W_Fd G a (b 0) (W_S3 G b w) v) (wc' := ([] : va_W)) (ws' := W_Fd G a (b 0) (W_S3 G b w) v) hx hb hml hown hts hK hN hA hP hD hS (t_Fd_isSlot l G (1 : Int32) 1 fS_1) m_Fd_isSlot k_725 ⟨Nat.le_of_ble_eq_true rfl, Nat.le_of_ble_eq_true rfl⟩ (List.Perm.refl _) (List.Perm.refl _) rfl rfl (Nat.le_of_ble_eq_true rfl) hl.1 d_Fd_keep_1 ⟨Nat.zero_le _, Nat.zero_le _⟩ (fun H locs hP hD hS => ?_)
  refine lv_if_ne (tgt := 10) hx hb d_Fd_keep_4 (by decide) (fun _ => ?_) (fun c_9 => absurd c_9 (by decide))
  refine lv_aload_n hx hb d_Fd_keep_10 rfl (lv_at hl 0 rfl) ?_
  refine va_get (D := G.1) (ci := 8) (v := .ref (b 0)) (C := R_Fd) (T := T_Fd) (N := 6) hx hb hts in_Fd hown hK hP 0 rfl rfl 3 (by decide) (hts _ k_221) (fun _ h9 => h9) rfl d_Fd_keep_11 ?_
  refine lv_iload_n hx hb d_Fd_keep_14 rfl (lv_at hl 1 rfl) ?_
  refine lv_aload_n hx hb d_Fd_keep_15 rfl (lv_at hl 0 rfl) ?_
  refine va_get (D := G.1) (ci := 8) (v := .ref (a 1)) (C := R_Fd) (T := T_Fd) (N := 6) hx hb hts in_Fd hown hK hP 0 rfl rfl 0 (by decide) (hts _ k_218) (fun _ h9 => h9) rfl d_Fd_keep_16 ?_
  refine kcVv (cc := c_Fd_keep) (own := "FloodDiary") (index := 176) (wc := W_S3 G b w ++ W_St G (sh a 1) v.1) (wr := O_Fd G a (b 0) ++ (W_St G (sh a 21) v.2.1 ++ (W_Pd G (sh a 41) v.2.2.1 ++ (W_Or G (sh a 43) v.2.2.2.1 ++ (W_Hi G (sh a 48) v.2.2.2.2 ++ ([] : va_W)))))) (wc' := W_S3 G b (w.1, q) ++ W_St G (sh a 1) v.1) (ws' := W_Fd G a (b 0) (W_S3 G b (w.1, q)) v) hx hb hml hown hts hK hN hA hP hD hS (t_S3_store_1 l G b (sh a 1) w v.1 (w.1, q) hst) m_Sl_store k_728 ⟨Nat.le_of_ble_eq_true rfl, Nat.le_of_ble_eq_true rfl⟩ (pm_kp (O_Fd G a (b 0)) (W_St G (sh a 1) v.1) (W_St G (sh a 21) v.2.1) (W_Pd G (sh a 41) v.2.2.1) (W_Or G (sh a 43) v.2.2.2.1) (W_Hi G (sh a 48) v.2.2.2.2) (W_S3 G b w)) (pm_kp (O_Fd G a (b 0)) (W_St G (sh a 1) v.1) (W_St G (sh a 21) v.2.1) (W_Pd G (sh a 41) v.2.2.1) (W_Or G (sh a 43) v.2.2.2.1) (W_Hi G (sh a 48) v.2.2.2.2) (W_S3 G b (w.1, q))).symm 5 0 rfl rfl rfl rfl rfl (Nat.le_of_ble_eq_true rfl) hl.1 d_Fd_keep_19 ⟨Nat.zero_le _, Nat.zero_le _⟩ (fun H locs hP hD hS => ?_)
  have hu : b 0 = b 0 := rfl
  have hP : va_P G.1 vwCl (W_Fd G a (b 0) (W_S3 G b (w.1, q)) v) H := hP
  have hD : va_D A (W_Fd G a (b 0) (W_S3 G b (w.1, q)) v) := hD
  refine lv_aload_n hx hb d_Fd_keep_22 rfl (lv_at hl 0 rfl) ?_
  refine va_get (D := G.1) (ci := 8) (v := .ref (a 1)) (C := R_Fd) (T := T_Fd) (N := 6) hx hb hts in_Fd hown hK hP 0 rfl rfl 0 (by decide) (hts _ k_218) (fun _ h9 => h9) rfl d_Fd_keep_23 ?_
  refine va_getN (D := G.1) (ci := 6) (v := .ref (a 7)) (C := R_St) (T := T_St) (N := 9) (host := "FloodDiary") hx hb hts in_St hown hK hP 1 rfl rfl 1 (by decide) (va_Nw.use rfl (hN.1 _ nsF_6)) (fun _ h9 => h9) rfl d_Fd_keep_26 ?_
  refine va_getN (D := G.1) (ci := 0) (v := .int v.1.2.1.2.2.2.2.2.2.2.1) (C := R_Dy) (T := T_Dy) (N := 9) (host := "FloodDiary") hx hb hts in_Dy hown hK hP 7 rfl rfl 7 (by decide) (va_Nw.use rfl (hN.1 _ nsF_2)) (fun _ h9 => h9) rfl d_Fd_keep_29 ?_
  rw [← hu] at hP hD
  refine W.widen (k := 20) (n := 2248) (Nat.le_of_ble_eq_true rfl) (Nat.le_of_ble_eq_true rfl) ?_
  exact kAi (u := b) hx hb hr hlk hP hD hS hu d_Fd_keep_32

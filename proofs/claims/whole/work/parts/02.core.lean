/-! ===== CORE: one world format, one contract format, calls by permutation of the world's list ===== -/
/-- the tables' words that a change of the warmed tables keeps -/
def TB : List Cond := lw_tbl.filter goodWord
theorem TB_in {w : Cond} (h : w ∈ lw_tbl) (g : goodWord w = true) : w ∈ TB := List.mem_filter.mpr ⟨h, g⟩
theorem TB_of {w : Cond} (i : Nat) (h : tables_1[i]? = some w) (g : goodWord w = true) : w ∈ TB := TB_in (List.mem_append_right _ (List.mem_of_getElem? h)) g
theorem TB_sel {w : Cond} (i : Nat) (h : (k2_sels lw_privs)[i]? = some w) (g : goodWord w = true) : w ∈ TB := TB_in (List.mem_append_left _ (List.mem_of_getElem? h)) g
theorem TB_good : GoodIn TB TB := fun w hw => ⟨hw, good_of_word (List.mem_filter.mp hw).2⟩
def WS (y : MethodName) (cc : ByteArray) (n : Nat) (rt : Option FieldType) : List Cond := Cond.code y cc n rt :: TB
theorem WS_good {y : MethodName} {cc : ByteArray} {n : Nat} {rt : Option FieldType} (h : Cond.code y cc n rt ∈ TB) : GoodIn TB (WS y cc n rt) := fun w hw => by
  rcases List.mem_cons.mp hw with rfl | h1
  · exact TB_good _ h
  · exact TB_good _ h1
/-- the nest's words and the array over the states -/
def NW (U : State) : Prop := (∀ q ∈ nsF, va_Nw (.fieldLinkNest q.1 q.2.1 q.2.2.1 q.2.2.2.1 q.2.2.2.2.1 q.2.2.2.2.2) U) ∧ (∀ q ∈ nsM, va_Nw (.methodLinkNest q.1 q.2.1 q.2.2.1 q.2.2.2) U) ∧ va_AO "FloodDiary$State" U
theorem NW.warm {s U : State} (hW : s.WarmedH U.vm) (h : NW s) : NW U := ⟨fun q hq => va_Nw.warmF hW (h.1 q hq), fun q hq => va_Nw.warmM hW (h.2.1 q hq), va_AO.moved hW.alike h.2.2⟩
theorem NW.same {u U : State} (e : u.vm = U.vm) (h : NW u) : NW U := ⟨fun q hq => va_Nw.same rfl e (h.1 q hq), fun q hq => va_Nw.same rfl e (h.2.1 q hq), va_AO.moved (e ▸ Vm.Alike.refl u.vm) h.2.2⟩
/-- fields' and arrays' classes -/
abbrev GG : Type := va_G × ClassId × ClassId × ClassId × ClassId
abbrev tysG (G : GG) : List (ClassId × FieldType) := [(G.2.1, .int), (G.2.2.1, .char), (G.2.2.2.1, .boolean), (G.2.2.2.2, .object "FloodDiary$State")]
abbrev sh (a : Nat → Nat) (k : Nat) : Nat → Nat := fun j => a (k + j)
abbrev rmk (f lo : Nat) : Room := { frames := f, cells := 0, slots := 0, locals := lo }
/-- contracts -/
def pC (G : GG) (sz : Nat) (w : va_W) (av : List Value) : Array Value → State → Prop := va_Pc av (fun U => U.heap.size = sz ∧ va_P G.1 vwCl w U.heap ∧ va_K G.1 vwCl (tysG G) U ∧ NW U ∧ va_D (fun _ => True) w)
def qB (G : GG) (A : Nat → Prop) (w : va_W) : Unit → State → Prop := fun _ t => va_P G.1 vwCl w t.heap ∧ va_D A w
def qI (G : GG) (A : Nat → Prop) (w : va_W) (r : Int32) : Array Value → State → Outcome → State → Prop := va_Qi (S := Unit) (fun r2 _ => r2 = r) (qB G A w) A
def qV (G : GG) (A : Nat → Prop) (w : va_W) : Array Value → State → Outcome → State → Prop := va_Qv (S := Unit) (fun _ => True) (qB G A w) A
def MI (l : Launch) (G : GG) (y : MethodName) (cc : ByteArray) (n : Nat) (rt : Option FieldType) (rm : Room) (w : va_W) (av : List Value) (w' : va_W) (r : Int32) : Prop :=
  ∀ sz : Nat, Met l y (WS y cc n rt) rm (pC G sz w av) (qI G (va_A w sz) w' r) 0 0 (va_A w sz)
def MV (l : Launch) (G : GG) (y : MethodName) (cc : ByteArray) (n : Nat) (rm : Room) (w : va_W) (av : List Value) (w' : va_W) : Prop :=
  ∀ sz : Nat, Met l y (WS y cc n none) rm (pC G sz w av) (qV G (va_A w sz) w') 0 0 (va_A w sz)
theorem ofI {l : Launch} {G : GG} {y : MethodName} {cc : ByteArray} {n : Nat} {rt : Option FieldType} {rm : Room} {w : va_W} {av : List Value} {w' : va_W} {r : Int32} (own : String) (hy : plainName y.cls = true) (ho : y.cls = own) (hn : (lg_sl av).length ≤ n)
    (body : ∀ (p : Program) (e : Env) (s : State) (m : MethodId) (args : Array Value) (below : List Frame) (meth : Method) (c : Code) (A : Nat → Prop) (ls : Array Slot),
      p.tables.exec = Jvm.exec → c.code = cc → meth.sig.returnType = rt → c.maxLocals = n → s.vm.findClass own = some m.cls → (∀ q ∈ TB, q.before args s = true) → meth.locks = false → va_K G.1 vwCl (tysG G) s → NW s →
      (∀ q : Nat, s.heap.size ≤ q → A q) → va_P G.1 vwCl w s.heap → va_D A w → va_S A s.heap s.heap [] → lv_has ls n (lv_args 0 av) →
      W p l e rm s m args below meth c s.heap [] 0 0 (MQ below (qI G A w' r) args s 0 0 A) (F0 m 0 ls [])) : MI l G y cc n rt rm w av w' r := by
  intro sz
  refine Met.ofW (cc := cc) (maxL := n) (ret := rt) hy rfl ?_
  intro p e s m args below meth c s₁ B hml hv
  obtain ⟨rfl, hsz, hP, hK, hN, hD0⟩ := hv
  subst hsz
  have hts := atoms_spec (ws := WS y cc n rt) B.pre
  have hown : s.vm.findClass own = some m.cls := ho ▸ findClass_of_methodNamed B.named
  have hl := lv_entry av (n := n) hn
  rw [lg_entry_eq]
  exact body p e s m av.toArray below meth c (va_A w s.heap.size) _ B.exec B.bytes B.returns hml hown (fun q hq => hts q (List.mem_cons_of_mem _ hq)) B.notSynchronized hK hN (fun q h => Or.inr h) hP hD0.self va_S.rf hl
theorem ofV {l : Launch} {G : GG} {y : MethodName} {cc : ByteArray} {n : Nat} {rm : Room} {w : va_W} {av : List Value} {w' : va_W} (own : String) (hy : plainName y.cls = true) (ho : y.cls = own) (hn : (lg_sl av).length ≤ n)
    (body : ∀ (p : Program) (e : Env) (s : State) (m : MethodId) (args : Array Value) (below : List Frame) (meth : Method) (c : Code) (A : Nat → Prop) (ls : Array Slot),
      p.tables.exec = Jvm.exec → c.code = cc → meth.sig.returnType = none → c.maxLocals = n → s.vm.findClass own = some m.cls → (∀ q ∈ TB, q.before args s = true) → meth.locks = false → va_K G.1 vwCl (tysG G) s → NW s →
      (∀ q : Nat, s.heap.size ≤ q → A q) → va_P G.1 vwCl w s.heap → va_D A w → va_S A s.heap s.heap [] → lv_has ls n (lv_args 0 av) →
      W p l e rm s m args below meth c s.heap [] 0 0 (MQ below (qV G A w') args s 0 0 A) (F0 m 0 ls [])) : MV l G y cc n rm w av w' := by
  intro sz
  refine Met.ofW (cc := cc) (maxL := n) (ret := none) hy rfl ?_
  intro p e s m args below meth c s₁ B hml hv
  obtain ⟨rfl, hsz, hP, hK, hN, hD0⟩ := hv
  subst hsz
  have hts := atoms_spec (ws := WS y cc n none) B.pre
  have hown : s.vm.findClass own = some m.cls := ho ▸ findClass_of_methodNamed B.named
  have hl := lv_entry av (n := n) hn
  rw [lg_entry_eq]
  exact body p e s m av.toArray below meth c (va_A w s.heap.size) _ B.exec B.bytes B.returns hml hown (fun q hq => hts q (List.mem_cons_of_mem _ hq)) B.notSynchronized hK hN (fun q h => Or.inr h) hP hD0.self va_S.rf hl
/-- a world's list read as a set -/
theorem vP_iff {D : va_G} {cl : List vw_C} {ws : va_W} {H : Heap} : va_P D cl ws H ↔ ∀ q ∈ ws, va_at D cl q H :=
  ⟨fun h q hq => by obtain ⟨i, hi⟩ := List.mem_iff_getElem?.mp hq; exact h i q hi, fun h k q hk => h q (List.mem_of_getElem? hk)⟩
theorem vD_iff {A : Nat → Prop} {ws : va_W} : va_D A ws ↔ ws.Pairwise (fun p q => p.1 ≠ q.1) ∧ ∀ q ∈ ws, A q.1 := by
  constructor
  · intro h
    refine ⟨List.pairwise_iff_getElem.mpr fun i j hi hj hij e => ?_, fun q hq => ?_⟩
    · have := h.1 i j ws[i] ws[j] (List.getElem?_eq_getElem hi) (List.getElem?_eq_getElem hj) e
      omega
    · obtain ⟨i, hi⟩ := List.mem_iff_getElem?.mp hq
      exact h.2 i q hi
  · intro h
    refine ⟨fun i j p q hi hj e => ?_, fun k q hk => h.2 q (List.mem_of_getElem? hk)⟩
    obtain ⟨hi1, rfl⟩ := List.getElem?_eq_some_iff.mp hi
    obtain ⟨hj1, rfl⟩ := List.getElem?_eq_some_iff.mp hj
    have hpw := List.pairwise_iff_getElem.mp h.1
    rcases Nat.lt_trichotomy i j with q | q | q
    · exact absurd e (hpw i j hi1 hj1 q)
    · exact q
    · exact absurd e.symm (hpw j i hj1 hi1 q)
theorem vP_perm {D : va_G} {cl : List vw_C} {ws ws' : va_W} {H : Heap} (p : ws.Perm ws') (h : va_P D cl ws H) : va_P D cl ws' H := vP_iff.mpr fun q hq => vP_iff.mp h q (p.mem_iff.mpr hq)
theorem vD_perm {A : Nat → Prop} {ws ws' : va_W} (p : ws.Perm ws') (h : va_D A ws) : va_D A ws' := by
  obtain ⟨h1, h2⟩ := vD_iff.mp h
  exact vD_iff.mpr ⟨(List.Perm.pairwise_iff (fun h e => h e.symm) p).mp h1, fun q hq => h2 q (p.mem_iff.mpr hq)⟩
theorem vP_left {D : va_G} {cl : List vw_C} {a b : va_W} {H : Heap} (h : va_P D cl (a ++ b) H) : va_P D cl a H := vP_iff.mpr fun q hq => vP_iff.mp h q (List.mem_append_left _ hq)
theorem vD_left {A : Nat → Prop} {a b : va_W} (h : va_D A (a ++ b)) : va_D A a := by
  obtain ⟨h1, h2⟩ := vD_iff.mp h
  exact vD_iff.mpr ⟨(List.pairwise_append.mp h1).1, fun q hq => h2 q (List.mem_append_left _ hq)⟩
theorem prm {α : Type} {x y : List α} (h : ∀ (d : DecidableEq α) (z : α), @List.count α (@instBEqOfDecidableEq α d) z x = @List.count α (@instBEqOfDecidableEq α d) z y) : x.Perm y := by
  have d : DecidableEq α := fun a b => Classical.propDecidable (a = b)
  exact (@List.perm_iff_count α (@instBEqOfDecidableEq α d) inferInstance x y).mpr (fun z => h d z)
/-- what a callee may change is its own part and what is new -/
theorem fr_free {A0 : Nat → Prop} {ws wc wr : va_W} {H0 H : Heap} {locs : List Loc} (hD : va_D A0 ws) (p1 : ws.Perm (wc ++ wr)) (hS : va_S A0 H0 H locs) (hA : ∀ q, H0.size ≤ q → A0 q) : ∀ q, va_A wc H.size q → A0 q := by
  intro q h
  rcases h with ⟨k, e, h⟩ | h
  · exact (vD_iff.mp hD).2 (q, e) (p1.mem_iff.mpr (List.mem_append_left _ (List.mem_of_getElem? h)))
  · exact hA q (Nat.le_trans hS.1 h)
theorem fr_join {A0 : Nat → Prop} {D : va_G} {cl : List vw_C} {ws wc wr wc' ws' : va_W} {H H1 : Heap} (hP : va_P D cl ws H) (hD : va_D A0 ws) (p1 : ws.Perm (wc ++ wr)) (p2 : (wc' ++ wr).Perm ws')
    (hk : ∀ q : Nat, q < H.size → ¬ va_A wc H.size q → H1[q]? = H[q]?) (hF : ∀ q, va_A wc H.size q → A0 q) (hP1 : va_P D cl wc' H1) (hD1 : va_D (va_A wc H.size) wc') : va_P D cl ws' H1 ∧ va_D A0 ws' := by
  have hPa := vP_perm p1 hP
  have hDa := vD_iff.mp (vD_perm p1 hD)
  obtain ⟨pw, pa⟩ := hDa
  obtain ⟨pw1, pw2, pw3⟩ := List.pairwise_append.mp pw
  have off : ∀ q ∈ wr, q.1 < H.size ∧ ¬ va_A wc H.size q.1 := by
    intro q hq
    have hl := (vP_iff.mp hPa q (List.mem_append_right _ hq)).lt
    refine ⟨hl, fun h => ?_⟩
    rcases h with ⟨k, e, h⟩ | h
    · exact pw3 _ (List.mem_of_getElem? h) q hq rfl
    · omega
  obtain ⟨d1, d2⟩ := vD_iff.mp hD1
  refine ⟨vP_perm p2 (vP_iff.mpr fun q hq => ?_), vD_perm p2 (vD_iff.mpr ⟨List.pairwise_append.mpr ⟨d1, pw2, fun a ha b hb e => ?_⟩, fun q hq => ?_⟩)⟩
  · rcases List.mem_append.mp hq with h | h
    · exact vP_iff.mp hP1 q h
    · exact (vP_iff.mp hPa q (List.mem_append_right _ h)).kept (hk q.1 (off q h).1 (off q h).2)
  · exact (off b hb).2 (by rw [← e]; exact d2 a ha)
  · rcases List.mem_append.mp hq with h | h
    · exact hF _ (d2 q h)
    · exact pa q (List.mem_append_right _ h)
/-- the facts of a method that its calls need -/
def mfV (y : MethodName) (cc : ByteArray) (n : Nat) (rt : Option FieldType) (C : String) (k : Nat) : Prop :=
  Cond.instanceMethod y ∈ TB ∧ Cond.selects C y y ∈ TB ∧ Cond.initialized C ∈ TB ∧ Cond.code y cc n rt ∈ TB ∧ y.cls = C ∧ y.cls ≠ "java/lang/invoke/MethodHandle" ∧ y.cls ≠ "java/lang/invoke/VarHandle" ∧ (parseMethodDescriptor y.desc).map (fun d => d.parameters.length) = some k
def mfS (y : MethodName) (cc : ByteArray) (n : Nat) (rt : Option FieldType) (C : String) (k : Nat) : Prop :=
  Cond.static y ∈ TB ∧ Cond.initialized C ∈ TB ∧ Cond.code y cc n rt ∈ TB ∧ y.cls = C ∧ y.cls ≠ "java/lang/invoke/MethodHandle" ∧ y.cls ≠ "java/lang/invoke/VarHandle" ∧ (parseMethodDescriptor y.desc).map (fun d => d.parameters.length) = some k
section KC
variable {p : Program} {l : Launch} {e : Env} {R : Room} {s : State} {m : MethodId} {args : Array Value} {below : List Frame} {meth : Method} {c : Code} {H : Heap} {locs : List Loc} {cells slots : Nat} {Q : State → Prop}
variable {cc : ByteArray} {pc : Nat} {ls : Array Slot} {G : GG} {A : Nat → Prop} {H0 : Heap} {own : String} {nL : Nat}
theorem kPre {wc : va_W} {av : List Value} (hK : va_K G.1 vwCl (tysG G) s) (hN : NW s) (hPc : va_P G.1 vwCl wc H) (hDc : va_D A wc) : PreS s H (pC G H.size wc av) av :=
  ⟨fun a U g mk q => ⟨q.1, q.2.1, q.2.2.1, va_K.moved (u := U) (U := U.calling g mk a) (Vm.Alike.refl U.vm) q.2.2.2.1, NW.same (u := U) (U := U.calling g mk a) rfl q.2.2.2.2.1, q.2.2.2.2.2⟩,
   fun U hU hW => ⟨rfl, by rw [hU], by rw [hU]; exact hPc, va_K.moved hW.alike hK, NW.warm hW hN, hDc.weaken (fun _ _ _ _ => trivial)⟩⟩
theorem kcV (hx : p.tables.exec = Jvm.exec) (hb : c.code = cc) (hml : c.maxLocals = nL) (hown : s.vm.findClass own = some m.cls) (hts : ∀ q ∈ TB, q.before args s = true) (hK : va_K G.1 vwCl (tysG G) s) (hN : NW s) (hA : ∀ q, H0.size ≤ q → A q)
    {ws wc wr wc' ws' : va_W} (hP : va_P G.1 vwCl ws H) (hD : va_D A ws) (hS : va_S A H0 H locs)
    {y : MethodName} {bytes : ByteArray} {maxL n index : Nat} {rt : Option FieldType} {f lo : Nat} {C : String} {b : Nat} {As rest st0 : List Value} {r : Int32}
    (hM : MI l G y bytes maxL rt (rmk f lo) wc (.ref b :: As) wc' r) (F : mfV y bytes maxL rt C n) (hl : Cond.methodLink own index y ∈ TB) (hR : f + 1 ≤ R.frames ∧ 8 + (maxL + 11) + lo ≤ R.locals) (p1 : ws.Perm (wc ++ wr)) (p2 : (wc' ++ wr).Perm ws')
    (ci k0 : Nat) {q : vw_C} (hq : vwCl[ci]? = some q) (hqC : q.1 = C) {fs : List Value} (he : wc[k0]? = some (b, .inr (ci, fs))) (hst : st0 = As.reverse ++ .ref b :: rest) (hn : As.length = n) (hw : (rest.map fun v => v.category).sum ≤ 8) (hls : ls.size = nL) (hdg : decode cc pc = .ok (.invokevirtual index, 3)) (hf : cells ≤ R.cells ∧ slots ≤ R.slots)
    (kk : ∀ (H1 : Heap) (locs1 : List Loc), va_P G.1 vwCl ws' H1 → va_D A ws' → va_S A H0 H1 locs1 → W p l e R s m args below meth c H1 locs1 cells slots Q (F0 m (pc + 3) ls (.int r :: rest))) :
    W p l e R s m args below meth c H locs cells slots Q (F0 m pc ls st0) := by
  have hPc := vP_left (vP_perm p1 hP)
  have hDc := vD_left (vD_perm p1 hD)
  obtain ⟨f1, f2, f3, f4, f5, f6, f7, f8⟩ := F
  have hrun := va_runV (R := R) (H := H) (locs := locs) (cells := cells) (slots := slots) (meth := meth) (e := e) (below := below) (C := C) (b := b) (As := As) (rest := rest) (index := index) (g := F0 m pc ls st0) ⟨hx, hb, hml, hown, hts⟩ (hM H.size)
    (⟨callB_of n hts (WS_good f4) rfl rfl rfl (hts _ (f5 ▸ f3)) (hts _ hl) ⟨f6, f7, f8⟩ hR, hts _ f1, hts _ f2⟩ : CallW R s args own C index y bytes maxL rt (WS y bytes maxL rt) (rmk f lo) 0 0 n)
    ⟨(kPre hK hN hPc hDc).1, by have h := va_recv hK hPc hq he; rw [hqC] at h; exact h, (kPre hK hN hPc hDc).2⟩ rfl hn hls hst (lv_room hw) hdg hf
  exact va_calli hrun hS (fun q _ h => fr_free hD p1 hS hA q h) (fr_free hD p1 hS hA) (fun r2 u t H1 locs1 ht hvm hw1 hB hz hk hS1 => by
    obtain ⟨hP1, hD1⟩ := hB
    rw [ht] at hP1
    obtain ⟨hP2, hD2⟩ := fr_join hP hD p1 p2 hk (fr_free hD p1 hS hA) hP1 hD1
    rw [hw1]
    exact kk H1 locs1 hP2 hD2 hS1)
theorem kcVv (hx : p.tables.exec = Jvm.exec) (hb : c.code = cc) (hml : c.maxLocals = nL) (hown : s.vm.findClass own = some m.cls) (hts : ∀ q ∈ TB, q.before args s = true) (hK : va_K G.1 vwCl (tysG G) s) (hN : NW s) (hA : ∀ q, H0.size ≤ q → A q)
    {ws wc wr wc' ws' : va_W} (hP : va_P G.1 vwCl ws H) (hD : va_D A ws) (hS : va_S A H0 H locs)
    {y : MethodName} {bytes : ByteArray} {maxL n index : Nat} {f lo : Nat} {C : String} {b : Nat} {As rest st0 : List Value}
    (hM : MV l G y bytes maxL (rmk f lo) wc (.ref b :: As) wc') (F : mfV y bytes maxL none C n) (hl : Cond.methodLink own index y ∈ TB) (hR : f + 1 ≤ R.frames ∧ 8 + (maxL + 11) + lo ≤ R.locals) (p1 : ws.Perm (wc ++ wr)) (p2 : (wc' ++ wr).Perm ws')
    (ci k0 : Nat) {q : vw_C} (hq : vwCl[ci]? = some q) (hqC : q.1 = C) {fs : List Value} (he : wc[k0]? = some (b, .inr (ci, fs))) (hst : st0 = As.reverse ++ .ref b :: rest) (hn : As.length = n) (hw : (rest.map fun v => v.category).sum ≤ 8) (hls : ls.size = nL) (hdg : decode cc pc = .ok (.invokevirtual index, 3)) (hf : cells ≤ R.cells ∧ slots ≤ R.slots)
    (kk : ∀ (H1 : Heap) (locs1 : List Loc), va_P G.1 vwCl ws' H1 → va_D A ws' → va_S A H0 H1 locs1 → W p l e R s m args below meth c H1 locs1 cells slots Q (F0 m (pc + 3) ls rest)) :
    W p l e R s m args below meth c H locs cells slots Q (F0 m pc ls st0) := by
  have hPc := vP_left (vP_perm p1 hP)
  have hDc := vD_left (vD_perm p1 hD)
  obtain ⟨f1, f2, f3, f4, f5, f6, f7, f8⟩ := F
  have hrun := va_runV (R := R) (H := H) (locs := locs) (cells := cells) (slots := slots) (meth := meth) (e := e) (below := below) (C := C) (b := b) (As := As) (rest := rest) (index := index) (g := F0 m pc ls st0) ⟨hx, hb, hml, hown, hts⟩ (hM H.size)
    (⟨callB_of n hts (WS_good f4) rfl rfl rfl (hts _ (f5 ▸ f3)) (hts _ hl) ⟨f6, f7, f8⟩ hR, hts _ f1, hts _ f2⟩ : CallW R s args own C index y bytes maxL none (WS y bytes maxL none) (rmk f lo) 0 0 n)
    ⟨(kPre hK hN hPc hDc).1, by have h := va_recv hK hPc hq he; rw [hqC] at h; exact h, (kPre hK hN hPc hDc).2⟩ rfl hn hls hst (lv_room hw) hdg hf
  exact va_callv hrun hS (fun q _ h => fr_free hD p1 hS hA q h) (fr_free hD p1 hS hA) (fun u t H1 locs1 ht hvm hw1 hB hz hk hS1 => by
    obtain ⟨hP1, hD1⟩ := hB
    rw [ht] at hP1
    obtain ⟨hP2, hD2⟩ := fr_join hP hD p1 p2 hk (fr_free hD p1 hS hA) hP1 hD1
    exact kk H1 locs1 hP2 hD2 hS1)
theorem kcS (hx : p.tables.exec = Jvm.exec) (hb : c.code = cc) (hml : c.maxLocals = nL) (hown : s.vm.findClass own = some m.cls) (hts : ∀ q ∈ TB, q.before args s = true) (hK : va_K G.1 vwCl (tysG G) s) (hN : NW s) (hA : ∀ q, H0.size ≤ q → A q)
    {ws wc wr wc' ws' : va_W} (hP : va_P G.1 vwCl ws H) (hD : va_D A ws) (hS : va_S A H0 H locs)
    {y : MethodName} {bytes : ByteArray} {maxL n index : Nat} {rt : Option FieldType} {f lo : Nat} {C : String} {As rest st0 : List Value} {r : Int32}
    (hM : MI l G y bytes maxL rt (rmk f lo) wc As wc' r) (F : mfS y bytes maxL rt C n) (hl : Cond.methodLink own index y ∈ TB) (hR : f + 1 ≤ R.frames ∧ 8 + (maxL + 11) + lo ≤ R.locals) (p1 : ws.Perm (wc ++ wr)) (p2 : (wc' ++ wr).Perm ws')
    (hst : st0 = As.reverse ++ rest) (hn : As.length = n) (hw : (rest.map fun v => v.category).sum ≤ 8) (hls : ls.size = nL) (hdg : decode cc pc = .ok (.invokestatic index, 3)) (hf : cells ≤ R.cells ∧ slots ≤ R.slots)
    (kk : ∀ (H1 : Heap) (locs1 : List Loc), va_P G.1 vwCl ws' H1 → va_D A ws' → va_S A H0 H1 locs1 → W p l e R s m args below meth c H1 locs1 cells slots Q (F0 m (pc + 3) ls (.int r :: rest))) :
    W p l e R s m args below meth c H locs cells slots Q (F0 m pc ls st0) := by
  have hPc := vP_left (vP_perm p1 hP)
  have hDc := vD_left (vD_perm p1 hD)
  obtain ⟨f1, f3, f4, f5, f6, f7, f8⟩ := F
  have hrun := va_runS (R := R) (H := H) (locs := locs) (cells := cells) (slots := slots) (meth := meth) (e := e) (below := below) (As := As) (rest := rest) (index := index) (g := F0 m pc ls st0) ⟨hx, hb, hml, hown, hts⟩ (hM H.size)
    (⟨callB_of n hts (WS_good f4) rfl rfl rfl (hts _ (f5 ▸ f3)) (hts _ hl) ⟨f6, f7, f8⟩ hR, hts _ f1⟩ : CallB R s args own index y bytes maxL rt (WS y bytes maxL rt) (rmk f lo) 0 0 n ∧ (Cond.static y).before args s = true)
    (kPre hK hN hPc hDc) rfl hn hls hst (lv_room hw) hdg hf
  exact va_calli hrun hS (fun q _ h => fr_free hD p1 hS hA q h) (fr_free hD p1 hS hA) (fun r2 u t H1 locs1 ht hvm hw1 hB hz hk hS1 => by
    obtain ⟨hP1, hD1⟩ := hB
    rw [ht] at hP1
    obtain ⟨hP2, hD2⟩ := fr_join hP hD p1 p2 hk (fr_free hD p1 hS hA) hP1 hD1
    rw [hw1]
    exact kk H1 locs1 hP2 hD2 hS1)
theorem kcSv (hx : p.tables.exec = Jvm.exec) (hb : c.code = cc) (hml : c.maxLocals = nL) (hown : s.vm.findClass own = some m.cls) (hts : ∀ q ∈ TB, q.before args s = true) (hK : va_K G.1 vwCl (tysG G) s) (hN : NW s) (hA : ∀ q, H0.size ≤ q → A q)
    {ws wc wr wc' ws' : va_W} (hP : va_P G.1 vwCl ws H) (hD : va_D A ws) (hS : va_S A H0 H locs)
    {y : MethodName} {bytes : ByteArray} {maxL n index : Nat} {f lo : Nat} {C : String} {As rest st0 : List Value}
    (hM : MV l G y bytes maxL (rmk f lo) wc As wc') (F : mfS y bytes maxL none C n) (hl : Cond.methodLink own index y ∈ TB) (hR : f + 1 ≤ R.frames ∧ 8 + (maxL + 11) + lo ≤ R.locals) (p1 : ws.Perm (wc ++ wr)) (p2 : (wc' ++ wr).Perm ws')
    (hst : st0 = As.reverse ++ rest) (hn : As.length = n) (hw : (rest.map fun v => v.category).sum ≤ 8) (hls : ls.size = nL) (hdg : decode cc pc = .ok (.invokestatic index, 3)) (hf : cells ≤ R.cells ∧ slots ≤ R.slots)
    (kk : ∀ (H1 : Heap) (locs1 : List Loc), va_P G.1 vwCl ws' H1 → va_D A ws' → va_S A H0 H1 locs1 → W p l e R s m args below meth c H1 locs1 cells slots Q (F0 m (pc + 3) ls rest)) :
    W p l e R s m args below meth c H locs cells slots Q (F0 m pc ls st0) := by
  have hPc := vP_left (vP_perm p1 hP)
  have hDc := vD_left (vD_perm p1 hD)
  obtain ⟨f1, f3, f4, f5, f6, f7, f8⟩ := F
  have hrun := va_runS (R := R) (H := H) (locs := locs) (cells := cells) (slots := slots) (meth := meth) (e := e) (below := below) (As := As) (rest := rest) (index := index) (g := F0 m pc ls st0) ⟨hx, hb, hml, hown, hts⟩ (hM H.size)
    (⟨callB_of n hts (WS_good f4) rfl rfl rfl (hts _ (f5 ▸ f3)) (hts _ hl) ⟨f6, f7, f8⟩ hR, hts _ f1⟩ : CallB R s args own index y bytes maxL none (WS y bytes maxL none) (rmk f lo) 0 0 n ∧ (Cond.static y).before args s = true)
    (kPre hK hN hPc hDc) rfl hn hls hst (lv_room hw) hdg hf
  exact va_callv hrun hS (fun q _ h => fr_free hD p1 hS hA q h) (fr_free hD p1 hS hA) (fun u t H1 locs1 ht hvm hw1 hB hz hk hS1 => by
    obtain ⟨hP1, hD1⟩ := hB
    rw [ht] at hP1
    obtain ⟨hP2, hD2⟩ := fr_join hP hD p1 p2 hk (fr_free hD p1 hS hA) hP1 hD1
    exact kk H1 locs1 hP2 hD2 hS1)
theorem kcSN (hx : p.tables.exec = Jvm.exec) (hb : c.code = cc) (hml : c.maxLocals = nL) (hown : s.vm.findClass own = some m.cls) (hts : ∀ q ∈ TB, q.before args s = true) (hK : va_K G.1 vwCl (tysG G) s) (hN : NW s) (hA : ∀ q, H0.size ≤ q → A q)
    {ws wc wr wc' ws' : va_W} (hP : va_P G.1 vwCl ws H) (hD : va_D A ws) (hS : va_S A H0 H locs)
    {y : MethodName} {bytes : ByteArray} {maxL n index : Nat} {rt : Option FieldType} {f lo : Nat} {C : String} {As rest st0 : List Value} {r : Int32}
    (hM : MI l G y bytes maxL rt (rmk f lo) wc As wc' r) (F : mfS y bytes maxL rt C n) (hl : (own, index, y, "FloodDiary") ∈ nsM) (hR : f + 1 ≤ R.frames ∧ 8 + (maxL + 11) + lo ≤ R.locals) (p1 : ws.Perm (wc ++ wr)) (p2 : (wc' ++ wr).Perm ws')
    (hst : st0 = As.reverse ++ rest) (hn : As.length = n) (hw : (rest.map fun v => v.category).sum ≤ 8) (hls : ls.size = nL) (hdg : decode cc pc = .ok (.invokestatic index, 3)) (hf : cells ≤ R.cells ∧ slots ≤ R.slots)
    (kk : ∀ (H1 : Heap) (locs1 : List Loc), va_P G.1 vwCl ws' H1 → va_D A ws' → va_S A H0 H1 locs1 → W p l e R s m args below meth c H1 locs1 cells slots Q (F0 m (pc + 3) ls (.int r :: rest))) :
    W p l e R s m args below meth c H locs cells slots Q (F0 m pc ls st0) := by
  have hPc := vP_left (vP_perm p1 hP)
  have hDc := vD_left (vD_perm p1 hD)
  obtain ⟨f1, f3, f4, f5, f6, f7, f8⟩ := F
  have hrun := va_runSN (R := R) (H := H) (locs := locs) (cells := cells) (slots := slots) (meth := meth) (e := e) (below := below) (As := As) (rest := rest) (index := index) (host := "FloodDiary") (g := F0 m pc ls st0) ⟨hx, hb, hml, hown, hts⟩ (hM H.size)
    (⟨va_cnB n hts (WS_good f4) rfl rfl rfl (hN.2.1 _ hl) (hts _ (f5 ▸ f3)) ⟨f6, f7, f8⟩ hR, hts _ f1, trivial⟩ : va_CN R s args own index y "FloodDiary" bytes maxL rt (WS y bytes maxL rt) (rmk f lo) 0 0 n ∧ (Cond.static y).before args s = true ∧ True)
    (kPre hK hN hPc hDc) rfl hn hls hst (lv_room hw) hdg hf
  exact va_calli hrun hS (fun q _ h => fr_free hD p1 hS hA q h) (fr_free hD p1 hS hA) (fun r2 u t H1 locs1 ht hvm hw1 hB hz hk hS1 => by
    obtain ⟨hP1, hD1⟩ := hB
    rw [ht] at hP1
    obtain ⟨hP2, hD2⟩ := fr_join hP hD p1 p2 hk (fr_free hD p1 hS hA) hP1 hD1
    rw [hw1]
    exact kk H1 locs1 hP2 hD2 hS1)
theorem kI (hx : p.tables.exec = Jvm.exec) (hb : c.code = cc) (hr : meth.sig.returnType = some .int) (hlk : meth.locks = false) {w : va_W} (hP : va_P G.1 vwCl w H) (hD : va_D A w) (hS : va_S A s.heap H locs) {r : Int32} (hdg : decode cc pc = .ok (.ireturn, 1)) :
    W p l e R s m args below meth c H locs cells slots (MQ below (qI G A w r) args s cells slots A) (F0 m pc ls [.int r]) :=
  W.iret hx hb hr (fun t ht hW => ⟨⟨r, (), rfl, rfl, by rw [ht]; exact hP, hD⟩, hS.F ht⟩) hS.2.2 hdg hlk
theorem kZ (hx : p.tables.exec = Jvm.exec) (hb : c.code = cc) (hr : meth.sig.returnType = some .boolean) (hlk : meth.locks = false) {w : va_W} (hP : va_P G.1 vwCl w H) (hD : va_D A w) (hS : va_S A s.heap H locs) {r : Int32} (hz : r = 0 ∨ r = 1) (hdg : decode cc pc = .ok (.ireturn, 1)) :
    W p l e R s m args below meth c H locs cells slots (MQ below (qI G A w r) args s cells slots A) (F0 m pc ls [.int r]) :=
  W.zret hx hb hr (by rcases hz with rfl | rfl <;> rfl) (fun t ht hW => ⟨⟨r, (), rfl, rfl, by rw [ht]; exact hP, hD⟩, hS.F ht⟩) hS.2.2 hdg hlk
theorem kV (hx : p.tables.exec = Jvm.exec) (hb : c.code = cc) (hr : meth.sig.returnType = none) (hlk : meth.locks = false) {w : va_W} (hP : va_P G.1 vwCl w H) (hD : va_D A w) (hS : va_S A s.heap H locs) (hdg : decode cc pc = .ok (.return_, 1)) :
    W p l e R s m args below meth c H locs cells slots (MQ below (qV G A w) args s cells slots A) (F0 m pc ls []) :=
  W.vret hx hb hr (fun t ht hW => ⟨⟨(), rfl, trivial, by rw [ht]; exact hP, hD⟩, hS.F ht⟩) hS.2.2 hdg hlk
end KC
theorem bnar {x : Int32} (h : x = 0 ∨ x = 1) : narrow .boolean (.int x) = .int x ∧ fits .boolean (.int x) = true := by rcases h with rfl | rfl <;> exact ⟨rfl, rfl⟩
/-- the words in which the methods are told as functions: a test, a guard, what comes behind a call -/
noncomputable def ob {α : Sort _} (P : Prop) (a b : α) : α := @ite α P (Classical.propDecidable P) a b
theorem ob_t {α : Sort _} {P : Prop} {a b : α} (h : P) : ob P a b = a := if_pos h
theorem ob_f {α : Sort _} {P : Prop} {a b : α} (h : ¬ P) : ob P a b = b := if_neg h
theorem ob_et {α : Sort _} {P : Prop} {a b r : α} (h : P) (e : ob P a b = r) : a = r := (ob_t h).symm.trans e
theorem ob_ef {α : Sort _} {P : Prop} {a b r : α} (h : ¬ P) (e : ob P a b = r) : b = r := (ob_f h).symm.trans e
noncomputable def og {α : Type _} (P : Prop) (k : Option α) : Option α := @ite _ P (Classical.propDecidable P) k none
theorem og_t {α : Type _} {P : Prop} {k : Option α} (h : P) : og P k = k := if_pos h
theorem og_e {α : Type _} {P : Prop} {k : Option α} {q : α} (h : og P k = some q) : P ∧ k = some q := by
  by_cases g : P
  · exact ⟨g, (og_t g).symm.trans h⟩
  · exact absurd ((if_neg g).symm.trans h) (fun z => by cases z)
def oc {α β : Type _} (x : Option α) (k : α → Option β) : Option β := x.bind k
theorem oc_s {α β : Type _} {x : α} {k : α → Option β} : oc (some x) k = k x := rfl
theorem oc_e {α β : Type _} {x : Option α} {k : α → Option β} {q : β} (h : oc x k = some q) : ∃ y, x = some y ∧ k y = some q := by
  cases x with
  | none => cases h
  | some y => exact ⟨y, rfl, h⟩
def nx {α β : Type _} (x : α) (k : α → Option β) : Option β := k x
theorem nx_e {α β : Type _} {x : α} {k : α → Option β} {q : β} (h : nx x k = some q) : ∃ y, y = x ∧ k y = some q := ⟨x, rfl, h⟩
def FU : Nat := 20000

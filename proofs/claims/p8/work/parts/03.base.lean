/-! ===== base: contracts over worlds, calls, returns, loops, joins ===== -/
abbrev TYS (k : Nat → ClassId) : List (ClassId × FieldType) := [(k 0, .int), (k 1, .char), (k 2, .long), (k 3, .object "LameClocks$Sheet")]
abbrev rmq (fr lo : Nat) : Room := { frames := fr, cells := 0, slots := 0, locals := lo }
/-- the String constants, by their places; and the static that says how Strings are held -/
def STL : List Nat := [13, 4, 6]
def STB : List (List Int32) := [[48, 49, 50, 51, 52, 53, 54, 55, 56, 57, 97, 98, 45], [115, 114, 119, 110], [112, 99, 111, 100, 116, 109]]
/-- links to private constructors; the class of Sheet rows -/
def NW (U : State) : Prop := va_Nw (.methodLinkNest RX7 9 yX6_init RX7) U ∧ va_Nw (.methodLinkNest RX6 18 yX0_init RX7) U ∧ va_Nw (.methodLinkNest RX6 25 yX3_init RX7) U ∧ va_Nw (.methodLinkNest RX7 32 yX5_init RX7) U ∧ va_Nw (.methodLinkNest RX7 39 yX1_init RX7) U ∧ va_Nw (.methodLinkNest RX7 54 yX4_init RX7) U ∧ va_AO "LameClocks$Sheet" U
theorem NW.warm {s U : State} (hW : s.WarmedH U.vm) (h : NW s) : NW U := by
  obtain ⟨h1, h2, h3, h4, h5, h6, h7⟩ := h
  exact ⟨h1.warmM hW, h2.warmM hW, h3.warmM hW, h4.warmM hW, h5.warmM hW, h6.warmM hW, h7.moved hW.alike⟩
theorem NW.calling {U : State} {g : JFrame} {mk : MethodId} {a : Array Value} (h : NW U) : NW (U.calling g mk a) := by
  obtain ⟨h1, h2, h3, h4, h5, h6, h7⟩ := h
  exact ⟨h1.same rfl rfl, h2.same rfl rfl, h3.same rfl rfl, h4.same rfl rfl, h5.same rfl rfl, h6.same rfl rfl, h7.moved (u := U) (U := U.calling g mk a) (Vm.Alike.refl U.vm)⟩
def SX (k : Nat → ClassId) (A : Nat → Prop) (U : State) (H : Heap) : Prop := NW U ∧ vk_S 3 STL STB (fun i => k (10 + i)) (fun i => k (20 + i)) A U H ∧ vk_R "LameClocks" 147 "0123456789ab-" (k 10) U ∧ vk_R "LameClocks" 159 "srwn" (k 11) U ∧ vk_R "LameClocks$Tape" 55 "pcodtm" (k 12) U ∧ va_Z "java/lang/String" "COMPACT_STRINGS" "Z" (.int 1) A U H
theorem SX.to {k : Nat → ClassId} {A B : Nat → Prop} {s U : State} {H : Heap} {locs : List Loc} (h : SX k A s s.heap) (hS : va_S A s.heap H locs) (hW : s.WarmedH U.vm) (hF : ∀ q, B q → A q) (hU : U.heap = H) : SX k B U U.heap := by
  obtain ⟨h0, h1, h2, h3, h4, h5⟩ := h
  rw [hU]
  exact ⟨h0.warm hW, ((h1.kept hS.2.1).moved hW.alike).narrow hF, h2.warm hW, h3.warm hW, h4.warm hW, ((h5.kept hS.2.1).moved hW.alike).narrow hF⟩
theorem SX.calling {k : Nat → ClassId} {A : Nat → Prop} {U : State} {g : JFrame} {mk : MethodId} {a : Array Value} (h : SX k A U U.heap) : SX k A (U.calling g mk a) (U.calling g mk a).heap := by
  obtain ⟨h0, h1, h2, h3, h4, h5⟩ := h
  exact ⟨h0.calling, h1.moved (u := U) (U := U.calling g mk a) (Vm.Alike.refl U.vm), h2.same (U := U.calling g mk a) rfl, h3.same (U := U.calling g mk a) rfl, h4.same (U := U.calling g mk a) rfl, h5.moved (u := U) (U := U.calling g mk a) (Vm.Alike.refl U.vm)⟩
def CP (G : va_G) (k : Nat → ClassId) (w : va_W) (sz : Nat) : State → Prop := fun U => U.heap.size = sz ∧ va_P G vwCl w U.heap ∧ va_K G vwCl (TYS k) U ∧ va_D (fun _ => True) w ∧ SX k (va_A w sz) U U.heap
def CB {S : Type} (G : va_G) (A : Nat → Prop) (w' : S → va_W) : S → State → Prop := fun u t => va_P G vwCl (w' u) t.heap ∧ va_D A (w' u)
def MI {S : Type} (l : Launch) (G : va_G) (k : Nat → ClassId) (y : MethodName) (ws : List Cond) (fr lo : Nat) (as : List Value) (w : va_W) (w' : S → va_W) (post : Int32 → S → Prop) : Prop := ∀ sz : Nat, Met l y ws (rmq fr lo) (va_Pc as (CP G k w sz)) (va_Qi post (CB G (va_A w sz) w') (va_A w sz)) 0 0 (va_A w sz)
def MV {S : Type} (l : Launch) (G : va_G) (k : Nat → ClassId) (y : MethodName) (ws : List Cond) (fr lo : Nat) (as : List Value) (w : va_W) (w' : S → va_W) (post : S → Prop) : Prop := ∀ sz : Nat, Met l y ws (rmq fr lo) (va_Pc as (CP G k w sz)) (va_Qv post (CB G (va_A w sz) w') (va_A w sz)) 0 0 (va_A w sz)
def ML {S : Type} (l : Launch) (G : va_G) (k : Nat → ClassId) (y : MethodName) (ws : List Cond) (fr lo : Nat) (as : List Value) (w : va_W) (w' : S → va_W) (post : Int64 → S → Prop) : Prop := ∀ sz : Nat, Met l y ws (rmq fr lo) (va_Pc as (CP G k w sz)) (va_Ql post (CB G (va_A w sz) w') (va_A w sz)) 0 0 (va_A w sz)
theorem cp_blind {as : List Value} {G : va_G} {k : Nat → ClassId} {w : va_W} {sz : Nat} : FrameBlind (va_Pc as (CP G k w sz)) := fun a U g mk q => by
  obtain ⟨q0, q1, qP, qK, qD, qX⟩ := q
  exact ⟨q0, q1, qP, va_K.moved (u := U) (U := U.calling g mk a) (Vm.Alike.refl U.vm) qK, qD, qX.calling⟩
theorem P_map {G : va_G} {cl : List vw_C} {w w2 : va_W} {H : Heap} (h : va_P G cl w H) (is : List Nat) (hs : is.map (fun i => w[i]?) = w2.map some) : va_P G cl w2 H := by
  intro k q hk
  have h1 : (is.map (fun i => w[i]?))[k]? = some (some q) := by rw [hs, List.getElem?_map, hk]; rfl
  rw [List.getElem?_map] at h1
  cases hi : is[k]? with
  | none => rw [hi] at h1; cases h1
  | some i => rw [hi] at h1; exact h i q (Option.some.inj h1)
theorem jn {G : va_G} {A : Nat → Prop} {w wc wr w1 wn : va_W} {H H1 : Heap} (hP : va_P G vwCl w H) (hD : va_D A w) (hF : ∀ q, va_A wc H.size q → A q) (isC isR isN : List Nat) (hC : isC.map (fun i => w[i]?) = wc.map some) (hR : isR.map (fun i => w[i]?) = wr.map some) (hnd : va_nd isR = true) (hdis : ∀ i ∈ isR, i ∉ isC)
    (hN : isN.map (fun i => (wr ++ w1)[i]?) = wn.map some) (hnN : va_nd isN = true) (hk : ∀ q : Nat, q < H.size → ¬ va_A wc H.size q → H1[q]? = H[q]?) (hP1 : va_P G vwCl w1 H1) (hD1 : va_D (va_A wc H.size) w1) : va_P G vwCl wn H1 ∧ va_D A wn := by
  obtain ⟨hP2, hD2⟩ := va_join hP hD isC isR hC hR hnd hdis hk hF hP1 hD1
  exact ⟨P_map hP2 isN hN, hD2.sub isN hnN hN⟩
theorem T_good : ∀ w ∈ wT, (w.onTables && w.keeps) = true ∨ ∃ ty, w = .arrayClass ty := fun _ hw => good_of_word (List.mem_filter.mp hw).2
theorem cwT {R : Room} {s : State} {args : Array Value} {own C : String} {index maxL fr lo : Nat} {y : MethodName} {bytes : ByteArray} {ret : Option FieldType} (n : Nat) (ht : ∀ w ∈ wT, w.before args s = true) (m1 : Cond.methodLink own index y ∈ wT) (m2 : Cond.instanceMethod y ∈ wT) (m3 : Cond.selects C y y ∈ wT) (m4 : Cond.initialized C ∈ wT) (m5 : Cond.code y bytes maxL ret ∈ wT) (hyC : y.cls = C)
    (hd : y.cls ≠ "java/lang/invoke/MethodHandle" ∧ y.cls ≠ "java/lang/invoke/VarHandle" ∧ (parseMethodDescriptor y.desc).map (fun d => d.parameters.length) = some n) (hR : fr + 1 ≤ R.frames ∧ 8 + (maxL + 11) + lo ≤ R.locals) : CallW R s args own C index y bytes maxL ret (Cond.code y bytes maxL ret :: wT) (rmq fr lo) 0 0 n :=
  ⟨callB_of n ht (fun w hw => by
    rcases List.mem_cons.mp hw with rfl | hw
    · exact ⟨m5, T_good _ m5⟩
    · exact ⟨hw, T_good _ hw⟩) rfl rfl rfl (by rw [hyC]; exact ht _ m4) (ht _ m1) hd hR, ht _ m2, ht _ m3⟩
theorem csT {R : Room} {s : State} {args : Array Value} {own : String} {index maxL fr lo : Nat} {y : MethodName} {bytes : ByteArray} {ret : Option FieldType} (n : Nat) (ht : ∀ w ∈ wT, w.before args s = true) (m1 : Cond.methodLink own index y ∈ wT) (m2 : Cond.static y ∈ wT) (m4 : Cond.initialized y.cls ∈ wT) (m5 : Cond.code y bytes maxL ret ∈ wT)
    (hd : y.cls ≠ "java/lang/invoke/MethodHandle" ∧ y.cls ≠ "java/lang/invoke/VarHandle" ∧ (parseMethodDescriptor y.desc).map (fun d => d.parameters.length) = some n) (hR : fr + 1 ≤ R.frames ∧ 8 + (maxL + 11) + lo ≤ R.locals) : CallB R s args own index y bytes maxL ret (Cond.code y bytes maxL ret :: wT) (rmq fr lo) 0 0 n ∧ (Cond.static y).before args s = true :=
  ⟨callB_of n ht (fun w hw => by
    rcases List.mem_cons.mp hw with rfl | hw
    · exact ⟨m5, T_good _ m5⟩
    · exact ⟨hw, T_good _ hw⟩) rfl rfl rfl (ht _ m4) (ht _ m1) hd hR, ht _ m2⟩
section Starts
variable {S : Type} {l : Launch} {G : va_G} {k : Nat → ClassId} {y : MethodName} {fr lo : Nat} {as : List Value} {w : va_W} {w' : S → va_W} {cc : ByteArray} {maxL : Nat} {ret : Option FieldType}
theorem mi_start {post : Int32 → S → Prop} (hy : plainName y.cls = true) (lv0 : List (Nat × Value)) (hlv : lv_args 0 as = lv0) (hlen : (lg_sl as).length ≤ maxL)
    (body : ∀ (p : Program) (e : Env) (s : State) (m : MethodId) (below : List Frame) (meth : Method) (c : Code) (A : Nat → Prop) (ls : Array Slot), p.tables.exec = Jvm.exec → c.code = cc → meth.sig.returnType = ret → meth.locks = false → c.maxLocals = maxL → s.vm.findClass y.cls = some m.cls → (∀ w ∈ wT, w.before as.toArray s = true) → va_K G vwCl (TYS k) s → va_P G vwCl w s.heap → va_D A w → (∀ q, s.heap.size ≤ q → A q) → va_S A s.heap s.heap [] → SX k A s s.heap → lv_has ls maxL lv0 →
      W p l e (rmq fr lo) s m as.toArray below meth c s.heap [] 0 0 (MQ below (va_Qi post (CB G A w') A) as.toArray s 0 0 A) (F0 m 0 ls [])) : MI l G k y (Cond.code y cc maxL ret :: wT) fr lo as w w' post := by
  intro sz
  refine Met.ofW (cc := cc) (maxL := maxL) (ret := ret) hy rfl ?_
  intro p e s m args below meth c s₁ B hml hv
  obtain ⟨rfl, hsz, hP, hK, hD0, hX⟩ := hv
  have hts : ∀ w ∈ wT, w.before as.toArray s = true := fun w h => atoms_spec (ws := Cond.code y cc maxL ret :: wT) B.pre w (List.mem_cons_of_mem _ h)
  have hown : s.vm.findClass y.cls = some m.cls := findClass_of_methodNamed B.named
  subst hsz
  have hD := hD0.self (sz := s.heap.size)
  generalize hAe : va_A w s.heap.size = A at hD hX ⊢
  have hA : ∀ q : Nat, s.heap.size ≤ q → A q := fun q h => by rw [← hAe]; exact Or.inr h
  have hl := lv_entry as (n := maxL) hlen
  rw [lg_entry_eq]
  rw [hlv] at hl
  exact body p e s m below meth c A _ B.exec B.bytes B.returns B.notSynchronized hml hown hts hK hP hD hA va_S.rf hX hl
theorem mv_start {post : S → Prop} (hy : plainName y.cls = true) (lv0 : List (Nat × Value)) (hlv : lv_args 0 as = lv0) (hlen : (lg_sl as).length ≤ maxL)
    (body : ∀ (p : Program) (e : Env) (s : State) (m : MethodId) (below : List Frame) (meth : Method) (c : Code) (A : Nat → Prop) (ls : Array Slot), p.tables.exec = Jvm.exec → c.code = cc → meth.sig.returnType = ret → meth.locks = false → c.maxLocals = maxL → s.vm.findClass y.cls = some m.cls → (∀ w ∈ wT, w.before as.toArray s = true) → va_K G vwCl (TYS k) s → va_P G vwCl w s.heap → va_D A w → (∀ q, s.heap.size ≤ q → A q) → va_S A s.heap s.heap [] → SX k A s s.heap → lv_has ls maxL lv0 →
      W p l e (rmq fr lo) s m as.toArray below meth c s.heap [] 0 0 (MQ below (va_Qv post (CB G A w') A) as.toArray s 0 0 A) (F0 m 0 ls [])) : MV l G k y (Cond.code y cc maxL ret :: wT) fr lo as w w' post := by
  intro sz
  refine Met.ofW (cc := cc) (maxL := maxL) (ret := ret) hy rfl ?_
  intro p e s m args below meth c s₁ B hml hv
  obtain ⟨rfl, hsz, hP, hK, hD0, hX⟩ := hv
  have hts : ∀ w ∈ wT, w.before as.toArray s = true := fun w h => atoms_spec (ws := Cond.code y cc maxL ret :: wT) B.pre w (List.mem_cons_of_mem _ h)
  have hown : s.vm.findClass y.cls = some m.cls := findClass_of_methodNamed B.named
  subst hsz
  have hD := hD0.self (sz := s.heap.size)
  generalize hAe : va_A w s.heap.size = A at hD hX ⊢
  have hA : ∀ q : Nat, s.heap.size ≤ q → A q := fun q h => by rw [← hAe]; exact Or.inr h
  have hl := lv_entry as (n := maxL) hlen
  rw [lg_entry_eq]
  rw [hlv] at hl
  exact body p e s m below meth c A _ B.exec B.bytes B.returns B.notSynchronized hml hown hts hK hP hD hA va_S.rf hX hl
theorem ml_start {post : Int64 → S → Prop} (hy : plainName y.cls = true) (lv0 : List (Nat × Value)) (hlv : lv_args 0 as = lv0) (hlen : (lg_sl as).length ≤ maxL)
    (body : ∀ (p : Program) (e : Env) (s : State) (m : MethodId) (below : List Frame) (meth : Method) (c : Code) (A : Nat → Prop) (ls : Array Slot), p.tables.exec = Jvm.exec → c.code = cc → meth.sig.returnType = ret → meth.locks = false → c.maxLocals = maxL → s.vm.findClass y.cls = some m.cls → (∀ w ∈ wT, w.before as.toArray s = true) → va_K G vwCl (TYS k) s → va_P G vwCl w s.heap → va_D A w → (∀ q, s.heap.size ≤ q → A q) → va_S A s.heap s.heap [] → SX k A s s.heap → lv_has ls maxL lv0 →
      W p l e (rmq fr lo) s m as.toArray below meth c s.heap [] 0 0 (MQ below (va_Ql post (CB G A w') A) as.toArray s 0 0 A) (F0 m 0 ls [])) : ML l G k y (Cond.code y cc maxL ret :: wT) fr lo as w w' post := by
  intro sz
  refine Met.ofW (cc := cc) (maxL := maxL) (ret := ret) hy rfl ?_
  intro p e s m args below meth c s₁ B hml hv
  obtain ⟨rfl, hsz, hP, hK, hD0, hX⟩ := hv
  have hts : ∀ w ∈ wT, w.before as.toArray s = true := fun w h => atoms_spec (ws := Cond.code y cc maxL ret :: wT) B.pre w (List.mem_cons_of_mem _ h)
  have hown : s.vm.findClass y.cls = some m.cls := findClass_of_methodNamed B.named
  subst hsz
  have hD := hD0.self (sz := s.heap.size)
  generalize hAe : va_A w s.heap.size = A at hD hX ⊢
  have hA : ∀ q : Nat, s.heap.size ≤ q → A q := fun q h => by rw [← hAe]; exact Or.inr h
  have hl := lv_entry as (n := maxL) hlen
  rw [lg_entry_eq]
  rw [hlv] at hl
  exact body p e s m below meth c A _ B.exec B.bytes B.returns B.notSynchronized hml hown hts hK hP hD hA va_S.rf hX hl
end Starts
section Ends
variable {p : Program} {l : Launch} {e : Env} {R : Room} {s : State} {m : MethodId} {args : Array Value} {below : List Frame} {meth : Method} {c : Code} {H : Heap} {locs : List Loc} {cells slots : Nat}
variable {cc : ByteArray} {pc : Nat} {ls : Array Slot} {G : va_G} {A : Nat → Prop} {S : Type} {w' : S → va_W}
theorem ret_i {post : Int32 → S → Prop} (hx : p.tables.exec = Jvm.exec) (hb : c.code = cc) (hr : meth.sig.returnType = some .int) (hk : meth.locks = false) {r : Int32} (u : S) (hf : post r u) (hP : va_P G vwCl (w' u) H) (hD : va_D A (w' u)) (hS : va_S A s.heap H locs) (hdg : decode cc pc = .ok (.ireturn, 1)) :
    W p l e R s m args below meth c H locs cells slots (MQ below (va_Qi post (CB G A w') A) args s cells slots A) (F0 m pc ls [.int r]) :=
  W.iret (v := r) hx hb hr (fun t ht _ => ⟨⟨r, u, rfl, hf, by rw [ht]; exact hP, hD⟩, hS.F ht⟩) hS.2.2 hdg hk
theorem bz_ok {r : Int32} (h : r = 0 ∨ r = 1) : narrow .boolean (.int r) = .int r := by
  rcases h with rfl | rfl <;> decide +kernel
theorem ret_z {post : Int32 → S → Prop} (hx : p.tables.exec = Jvm.exec) (hb : c.code = cc) (hr : meth.sig.returnType = some .boolean) (hk : meth.locks = false) {r : Int32} (hz : r = 0 ∨ r = 1) (u : S) (hf : post r u) (hP : va_P G vwCl (w' u) H) (hD : va_D A (w' u)) (hS : va_S A s.heap H locs) (hdg : decode cc pc = .ok (.ireturn, 1)) :
    W p l e R s m args below meth c H locs cells slots (MQ below (va_Qi post (CB G A w') A) args s cells slots A) (F0 m pc ls [.int r]) :=
  W.zret (v := r) (ty := .boolean) hx hb hr (bz_ok hz) (fun t ht _ => ⟨⟨r, u, rfl, hf, by rw [ht]; exact hP, hD⟩, hS.F ht⟩) hS.2.2 hdg hk
theorem ret_n {ty : FieldType} {post : Int32 → S → Prop} (hx : p.tables.exec = Jvm.exec) (hb : c.code = cc) (hr : meth.sig.returnType = some ty) (hk : meth.locks = false) {r : Int32} (hz : narrow ty (.int r) = .int r) (u : S) (hf : post r u) (hP : va_P G vwCl (w' u) H) (hD : va_D A (w' u)) (hS : va_S A s.heap H locs) (hdg : decode cc pc = .ok (.ireturn, 1)) :
    W p l e R s m args below meth c H locs cells slots (MQ below (va_Qi post (CB G A w') A) args s cells slots A) (F0 m pc ls [.int r]) :=
  W.zret (v := r) (ty := ty) hx hb hr hz (fun t ht _ => ⟨⟨r, u, rfl, hf, by rw [ht]; exact hP, hD⟩, hS.F ht⟩) hS.2.2 hdg hk
theorem ret_v {post : S → Prop} (hx : p.tables.exec = Jvm.exec) (hb : c.code = cc) (hr : meth.sig.returnType = none) (hk : meth.locks = false) (u : S) (hf : post u) (hP : va_P G vwCl (w' u) H) (hD : va_D A (w' u)) (hS : va_S A s.heap H locs) (hdg : decode cc pc = .ok (.return_, 1)) :
    W p l e R s m args below meth c H locs cells slots (MQ below (va_Qv post (CB G A w') A) args s cells slots A) (F0 m pc ls []) :=
  W.vret hx hb hr (fun t ht _ => ⟨⟨u, rfl, hf, by rw [ht]; exact hP, hD⟩, hS.F ht⟩) hS.2.2 hdg hk
theorem ret_l {post : Int64 → S → Prop} (hx : p.tables.exec = Jvm.exec) (hb : c.code = cc) (hr : meth.sig.returnType = some .long) (hk : meth.locks = false) {r : Int64} (u : S) (hf : post r u) (hP : va_P G vwCl (w' u) H) (hD : va_D A (w' u)) (hS : va_S A s.heap H locs) (hdg : decode cc pc = .ok (.lreturn, 1)) :
    W p l e R s m args below meth c H locs cells slots (MQ below (va_Ql post (CB G A w') A) args s cells slots A) (F0 m pc ls [.long r]) :=
  W.lret (v := r) hx hb hr (fun t ht _ => ⟨⟨r, u, rfl, hf, by rw [ht]; exact hP, hD⟩, hS.F ht⟩) hS.2.2 hdg hk
end Ends
section Walks
variable {p : Program} {l : Launch} {e : Env} {R : Room} {s : State} {m : MethodId} {args : Array Value} {below : List Frame} {meth : Method} {c : Code} {H : Heap} {locs : List Loc} {cells slots : Nat} {Q : State → Prop}
variable {cc : ByteArray} {pc : Nat} {ls : Array Slot} {G : va_G} {k : Nat → ClassId} {A : Nat → Prop} {S : Type}
theorem w_loop {σ : Type} {I : Nat → σ → Prop} {wl : σ → va_W} {lv : σ → List (Nat × Value)} {st : σ → List Value} {H0 : Heap} {nL : Nat} (n0 : Nat) (v0 : σ) (hi : I n0 v0) (hP : va_P G vwCl (wl v0) H) (hD : va_D A (wl v0)) (hS : va_S A H0 H locs) (hl : lv_has ls nL (lv v0))
    (step : ∀ (n : Nat) (v : σ), I n v → (∀ (n2 : Nat) (v : σ), n2 < n → I n2 v → ∀ (H : Heap) (locs : List Loc) (ls : Array Slot), va_P G vwCl (wl v) H → va_D A (wl v) → va_S A H0 H locs → lv_has ls nL (lv v) → W p l e R s m args below meth c H locs cells slots Q (F0 m pc ls (st v))) →
      ∀ (H : Heap) (locs : List Loc) (ls : Array Slot), va_P G vwCl (wl v) H → va_D A (wl v) → va_S A H0 H locs → lv_has ls nL (lv v) → W p l e R s m args below meth c H locs cells slots Q (F0 m pc ls (st v))) :
    W p l e R s m args below meth c H locs cells slots Q (F0 m pc ls (st v0)) := by
  have key : ∀ (n : Nat) (v : σ), I n v → ∀ (H : Heap) (locs : List Loc) (ls : Array Slot), va_P G vwCl (wl v) H → va_D A (wl v) → va_S A H0 H locs → lv_has ls nL (lv v) → W p l e R s m args below meth c H locs cells slots Q (F0 m pc ls (st v)) := by
    intro n
    induction n using Nat.strongRecOn with
    | ind n ih => exact fun v hv => step n v hv (fun n2 v2 hn hv2 => ih n2 hn v2 hv2)
  exact key n0 v0 hi H locs ls hP hD hS hl
theorem w_join {σ : Type} {J : σ → Prop} {wl : σ → va_W} {lv : σ → List (Nat × Value)} {st : σ → List Value} {H0 : Heap} {nL jpc : Nat} {g : JFrame}
    (body : ∀ (v : σ), J v → ∀ (H : Heap) (locs : List Loc) (ls : Array Slot), va_P G vwCl (wl v) H → va_D A (wl v) → va_S A H0 H locs → lv_has ls nL (lv v) → W p l e R s m args below meth c H locs cells slots Q (F0 m jpc ls (st v)))
    (main : (∀ (v : σ), J v → ∀ (H : Heap) (locs : List Loc) (ls : Array Slot), va_P G vwCl (wl v) H → va_D A (wl v) → va_S A H0 H locs → lv_has ls nL (lv v) → W p l e R s m args below meth c H locs cells slots Q (F0 m jpc ls (st v))) → W p l e R s m args below meth c H locs cells slots Q g) :
    W p l e R s m args below meth c H locs cells slots Q g := main body
variable {st rest As : List Value} {bytes : ByteArray} {nL maxL n index fr lo : Nat} {ret : Option FieldType} {y : MethodName} {ws' Ts : List Cond} {own C : String} {b : Addr} {w wc wr : va_W} {w' wn : S → va_W}
theorem cvi {post : Int32 → S → Prop} (F : CallFix p m c cc nL s args Ts own) (hM : MI l G k y ws' fr lo (.ref b :: As) wc w' post) (cw : CallW R s args own C index y bytes maxL ret ws' (rmq fr lo) 0 0 n)
    (hK : va_K G vwCl (TYS k) s) (hP : va_P G vwCl w H) (hD : va_D A w) (hS : va_S A s.heap H locs) (hX : SX k A s s.heap) (hA : ∀ q, s.heap.size ≤ q → A q)
    (isC isR isN : List Nat) (hC : isC.map (fun i => w[i]?) = wc.map some) (hR : isR.map (fun i => w[i]?) = wr.map some) (hnC : va_nd isC = true) (hnd : va_nd isR = true) (hdis : ∀ i ∈ isR, i ∉ isC) (hN : ∀ u, isN.map (fun i => (wr ++ w' u)[i]?) = (wn u).map some) (hnN : va_nd isN = true)
    {ci : Nat} {fs : List Value} {cq : vw_C} (hb0 : wc[0]? = some (b, .inr (ci, fs))) (hcq : vwCl[ci]? = some cq) (hCq : cq.1 = C)
    (hlen : As.length = n) (hsize : ls.size = nL) (hst : st = As.reverse ++ .ref b :: rest) (hW : (rest.map fun v => v.category).sum ≤ 8) (hdg : decode cc pc = .ok (.invokevirtual index, 3)) (hcs : cells ≤ R.cells) (hss : slots ≤ R.slots)
    (kk : ∀ (r : Int32) (u : S) (H1 : Heap) (locs1 : List Loc), post r u → va_P G vwCl (wn u) H1 → va_D A (wn u) → va_S A s.heap H1 locs1 → W p l e R s m args below meth c H1 locs1 cells slots Q (F0 m (pc + 3) ls (.int r :: rest))) :
    W p l e R s m args below meth c H locs cells slots Q (F0 m pc ls st) := by
  have hPc : va_P G vwCl wc H := P_map hP isC hC
  have hDc : va_D (fun _ => True) wc := (hD.sub isC hnC hC).weaken (fun _ _ _ _ => trivial)
  have hFc := va_free (wc := wc) hD hS hA isC hC
  refine va_calli (va_runV (rest := rest) (As := As) F (hM H.size) cw ⟨cp_blind, by subst hCq; exact va_recv hK hPc hcq hb0, fun U hU hW => ⟨rfl, by rw [hU], by rw [hU]; exact hPc, va_K.moved hW.alike hK, hDc, hX.to hS hW hFc hU⟩⟩ rfl hlen hsize hst (lv_room hW) hdg ⟨hcs, hss⟩) hS (fun q _ h => hFc q h) hFc (fun r u t H1 locs1 ht hvm hw hB hz hk hS1 => ?_)
  obtain ⟨hP1, hD1⟩ := hB
  rw [ht] at hP1
  obtain ⟨hP2, hD2⟩ := jn hP hD hFc isC isR isN hC hR hnd hdis (hN u) hnN hk hP1 hD1
  exact kk r u H1 locs1 hw hP2 hD2 hS1
theorem cvv {post : S → Prop} (F : CallFix p m c cc nL s args Ts own) (hM : MV l G k y ws' fr lo (.ref b :: As) wc w' post) (cw : CallW R s args own C index y bytes maxL ret ws' (rmq fr lo) 0 0 n)
    (hK : va_K G vwCl (TYS k) s) (hP : va_P G vwCl w H) (hD : va_D A w) (hS : va_S A s.heap H locs) (hX : SX k A s s.heap) (hA : ∀ q, s.heap.size ≤ q → A q)
    (isC isR isN : List Nat) (hC : isC.map (fun i => w[i]?) = wc.map some) (hR : isR.map (fun i => w[i]?) = wr.map some) (hnC : va_nd isC = true) (hnd : va_nd isR = true) (hdis : ∀ i ∈ isR, i ∉ isC) (hN : ∀ u, isN.map (fun i => (wr ++ w' u)[i]?) = (wn u).map some) (hnN : va_nd isN = true)
    {ci : Nat} {fs : List Value} {cq : vw_C} (hb0 : wc[0]? = some (b, .inr (ci, fs))) (hcq : vwCl[ci]? = some cq) (hCq : cq.1 = C)
    (hlen : As.length = n) (hsize : ls.size = nL) (hst : st = As.reverse ++ .ref b :: rest) (hW : (rest.map fun v => v.category).sum ≤ 8) (hdg : decode cc pc = .ok (.invokevirtual index, 3)) (hcs : cells ≤ R.cells) (hss : slots ≤ R.slots)
    (kk : ∀ (u : S) (H1 : Heap) (locs1 : List Loc), post u → va_P G vwCl (wn u) H1 → va_D A (wn u) → va_S A s.heap H1 locs1 → W p l e R s m args below meth c H1 locs1 cells slots Q (F0 m (pc + 3) ls rest)) :
    W p l e R s m args below meth c H locs cells slots Q (F0 m pc ls st) := by
  have hPc : va_P G vwCl wc H := P_map hP isC hC
  have hDc : va_D (fun _ => True) wc := (hD.sub isC hnC hC).weaken (fun _ _ _ _ => trivial)
  have hFc := va_free (wc := wc) hD hS hA isC hC
  refine va_callv (va_runV (rest := rest) (As := As) F (hM H.size) cw ⟨cp_blind, by subst hCq; exact va_recv hK hPc hcq hb0, fun U hU hW => ⟨rfl, by rw [hU], by rw [hU]; exact hPc, va_K.moved hW.alike hK, hDc, hX.to hS hW hFc hU⟩⟩ rfl hlen hsize hst (lv_room hW) hdg ⟨hcs, hss⟩) hS (fun q _ h => hFc q h) hFc (fun u t H1 locs1 ht hvm hw hB hz hk hS1 => ?_)
  obtain ⟨hP1, hD1⟩ := hB
  rw [ht] at hP1
  obtain ⟨hP2, hD2⟩ := jn hP hD hFc isC isR isN hC hR hnd hdis (hN u) hnN hk hP1 hD1
  exact kk u H1 locs1 hw hP2 hD2 hS1
/-- a static method that has no cells -/
theorem kept0 {w : va_W} {H H1 : Heap} (hP : va_P G vwCl w H) (hk : ∀ q : Nat, q < H.size → ¬ va_A [] H.size q → H1[q]? = H[q]?) : va_P G vwCl w H1 :=
  hP.kept (fun j q hq => hk q.1 (hP j q hq).lt (fun h => by
    rcases h with ⟨i, e, hi⟩ | h
    · simp at hi
    · exact absurd (hP j q hq).lt (Nat.not_lt.mpr h)))
theorem csi {post : Int32 → Unit → Prop} (F : CallFix p m c cc nL s args Ts own) (hM : MI l G k y ws' fr lo As [] (fun _ => []) post) (cw : CallB R s args own index y bytes maxL ret ws' (rmq fr lo) 0 0 n ∧ (Cond.static y).before args s = true)
    (hK : va_K G vwCl (TYS k) s) (hP : va_P G vwCl w H) (hS : va_S A s.heap H locs) (hX : SX k A s s.heap) (hA : ∀ q, s.heap.size ≤ q → A q)
    (hlen : As.length = n) (hsize : ls.size = nL) (hst : st = As.reverse ++ rest) (hW : (rest.map fun v => v.category).sum ≤ 8) (hdg : decode cc pc = .ok (.invokestatic index, 3)) (hcs : cells ≤ R.cells) (hss : slots ≤ R.slots)
    (kk : ∀ (r : Int32) (H1 : Heap) (locs1 : List Loc), post r () → va_P G vwCl w H1 → va_S A s.heap H1 locs1 → W p l e R s m args below meth c H1 locs1 cells slots Q (F0 m (pc + 3) ls (.int r :: rest))) :
    W p l e R s m args below meth c H locs cells slots Q (F0 m pc ls st) := by
  have hPc : va_P G vwCl [] H := fun k q h => by simp at h
  have hDc : va_D (fun _ => True) [] := ⟨fun i j p q h => by simp at h, fun k q h => by simp at h⟩
  have hFc : ∀ q, va_A [] H.size q → A q := fun q h => by
    rcases h with ⟨i, e, hi⟩ | h
    · simp at hi
    · exact hA q (Nat.le_trans hS.1 h)
  refine va_calli (va_runS (rest := rest) (As := As) F (hM H.size) cw ⟨cp_blind, fun U hU hW => ⟨rfl, by rw [hU], by rw [hU]; exact hPc, va_K.moved hW.alike hK, hDc, hX.to hS hW hFc hU⟩⟩ rfl hlen hsize hst (lv_room hW) hdg ⟨hcs, hss⟩) hS (fun q _ h => hFc q h) hFc (fun r u t H1 locs1 ht hvm hw hB hz hk hS1 => ?_)
  exact kk r H1 locs1 hw (kept0 hP hk) hS1
/-- a method of a String constant -/
theorem cst {i : Nat} {post : Int32 → Unit → Prop} (F : CallFix p m c cc nL s args Ts own) (hM : MI l G k y ws' fr lo (.ref (k (10 + i)) :: As) [] (fun _ => []) post) (cw : CallW R s args own "java/lang/String" index y bytes maxL ret ws' (rmq fr lo) 0 0 n)
    (hK : va_K G vwCl (TYS k) s) (hP : va_P G vwCl w H) (hS : va_S A s.heap H locs) (hX : SX k A s s.heap) (hA : ∀ q, s.heap.size ≤ q → A q) (hi : i < 3)
    (hlen : As.length = n) (hsize : ls.size = nL) (hst : st = As.reverse ++ .ref (k (10 + i)) :: rest) (hW : (rest.map fun v => v.category).sum ≤ 8) (hdg : decode cc pc = .ok (.invokevirtual index, 3)) (hcs : cells ≤ R.cells) (hss : slots ≤ R.slots)
    (kk : ∀ (r : Int32) (H1 : Heap) (locs1 : List Loc), post r () → va_P G vwCl w H1 → va_S A s.heap H1 locs1 → W p l e R s m args below meth c H1 locs1 cells slots Q (F0 m (pc + 3) ls (.int r :: rest))) :
    W p l e R s m args below meth c H locs cells slots Q (F0 m pc ls st) := by
  have hPc : va_P G vwCl [] H := fun k q h => by simp at h
  have hDc : va_D (fun _ => True) [] := ⟨fun i j p q h => by simp at h, fun k q h => by simp at h⟩
  have hFc : ∀ q, va_A [] H.size q → A q := fun q h => by
    rcases h with ⟨i, e, hi⟩ | h
    · simp at hi
    · exact hA q (Nat.le_trans hS.1 h)
  refine va_calli (va_runV (rest := rest) (As := As) F (hM H.size) cw ⟨cp_blind, vk_recv hX.2.1 hi hS, fun U hU hW => ⟨rfl, by rw [hU], by rw [hU]; exact hPc, va_K.moved hW.alike hK, hDc, hX.to hS hW hFc hU⟩⟩ rfl hlen hsize hst (lv_room hW) hdg ⟨hcs, hss⟩) hS (fun q _ h => hFc q h) hFc (fun r u t H1 locs1 ht hvm hw hB hz hk hS1 => ?_)
  exact kk r H1 locs1 hw (kept0 hP hk) hS1
theorem csl {post : Int64 → Unit → Prop} (F : CallFix p m c cc nL s args Ts own) (hM : ML l G k y ws' fr lo As [] (fun _ => []) post) (cw : CallB R s args own index y bytes maxL ret ws' (rmq fr lo) 0 0 n ∧ (Cond.static y).before args s = true)
    (hK : va_K G vwCl (TYS k) s) (hP : va_P G vwCl w H) (hS : va_S A s.heap H locs) (hX : SX k A s s.heap) (hA : ∀ q, s.heap.size ≤ q → A q)
    (hlen : As.length = n) (hsize : ls.size = nL) (hst : st = As.reverse ++ rest) (hW : (rest.map fun v => v.category).sum ≤ 8) (hdg : decode cc pc = .ok (.invokestatic index, 3)) (hcs : cells ≤ R.cells) (hss : slots ≤ R.slots)
    (kk : ∀ (r : Int64) (H1 : Heap) (locs1 : List Loc), post r () → va_P G vwCl w H1 → va_S A s.heap H1 locs1 → W p l e R s m args below meth c H1 locs1 cells slots Q (F0 m (pc + 3) ls (.long r :: rest))) :
    W p l e R s m args below meth c H locs cells slots Q (F0 m pc ls st) := by
  have hPc : va_P G vwCl [] H := fun k q h => by simp at h
  have hDc : va_D (fun _ => True) [] := ⟨fun i j p q h => by simp at h, fun k q h => by simp at h⟩
  have hFc : ∀ q, va_A [] H.size q → A q := fun q h => by
    rcases h with ⟨i, e, hi⟩ | h
    · simp at hi
    · exact hA q (Nat.le_trans hS.1 h)
  refine va_calll (va_runS (rest := rest) (As := As) F (hM H.size) cw ⟨cp_blind, fun U hU hW => ⟨rfl, by rw [hU], by rw [hU]; exact hPc, va_K.moved hW.alike hK, hDc, hX.to hS hW hFc hU⟩⟩ rfl hlen hsize hst (lv_room hW) hdg ⟨hcs, hss⟩) hS (fun q _ h => hFc q h) hFc (fun r u t H1 locs1 ht hvm hw hB hz hk hS1 => ?_)
  exact kk r H1 locs1 hw (kept0 hP hk) hS1
end Walks
/-- a switch of places lo .. lo + n - 1 that x isn't among -/
theorem sw_out {x : Int32} {lo : Int} {n : Nat} (h : ∀ i : Nat, i < n → ¬ x.toInt = lo + i) : x.toInt < lo ∨ lo + n - 1 < x.toInt := by
  by_cases h1 : x.toInt < lo
  · exact Or.inl h1
  · by_cases h2 : lo + n - 1 < x.toInt
    · exact Or.inr h2
    · exact absurd (by omega) (h (x.toInt - lo).toNat (by omega))
theorem sw3 {x : Int32} (h0 : ¬ x = 0) (h1 : ¬ x = 1) (h2 : ¬ x = 2) : x.toInt < 0 ∨ (2 : Int) < x.toInt := by
  have g0 : ¬ x.toInt = 0 := fun h => h0 (Int32.toInt_inj.mp (by rw [h]; rfl))
  have g1 : ¬ x.toInt = 1 := fun h => h1 (Int32.toInt_inj.mp (by rw [h]; rfl))
  have g2 : ¬ x.toInt = 2 := fun h => h2 (Int32.toInt_inj.mp (by rw [h]; rfl))
  omega
theorem sw4 {x : Int32} (h0 : ¬ x = 0) (h1 : ¬ x = 1) (h2 : ¬ x = 2) (h3 : ¬ x = 3) : x.toInt < 0 ∨ (3 : Int) < x.toInt := by
  have g0 : ¬ x.toInt = 0 := fun h => h0 (Int32.toInt_inj.mp (by rw [h]; rfl))
  have g1 : ¬ x.toInt = 1 := fun h => h1 (Int32.toInt_inj.mp (by rw [h]; rfl))
  have g2 : ¬ x.toInt = 2 := fun h => h2 (Int32.toInt_inj.mp (by rw [h]; rfl))
  have g3 : ¬ x.toInt = 3 := fun h => h3 (Int32.toInt_inj.mp (by rw [h]; rfl))
  omega
theorem sw7 {x : Int32} (h0 : ¬ x = 0) (h1 : ¬ x = 1) (h2 : ¬ x = 2) (h3 : ¬ x = 3) (h4 : ¬ x = 4) (h5 : ¬ x = 5) (h6 : ¬ x = 6) : x.toInt < 0 ∨ (6 : Int) < x.toInt := by
  have g0 : ¬ x.toInt = 0 := fun h => h0 (Int32.toInt_inj.mp (by rw [h]; rfl))
  have g1 : ¬ x.toInt = 1 := fun h => h1 (Int32.toInt_inj.mp (by rw [h]; rfl))
  have g2 : ¬ x.toInt = 2 := fun h => h2 (Int32.toInt_inj.mp (by rw [h]; rfl))
  have g3 : ¬ x.toInt = 3 := fun h => h3 (Int32.toInt_inj.mp (by rw [h]; rfl))
  have g4 : ¬ x.toInt = 4 := fun h => h4 (Int32.toInt_inj.mp (by rw [h]; rfl))
  have g5 : ¬ x.toInt = 5 := fun h => h5 (Int32.toInt_inj.mp (by rw [h]; rfl))
  have g6 : ¬ x.toInt = 6 := fun h => h6 (Int32.toInt_inj.mp (by rw [h]; rfl))
  omega
theorem sw8 {x : Int32} (h0 : ¬ x = 0) (h1 : ¬ x = 1) (h2 : ¬ x = 2) (h3 : ¬ x = 3) (h4 : ¬ x = 4) (h5 : ¬ x = 5) (h6 : ¬ x = 6) (h7 : ¬ x = 7) : x.toInt < 0 ∨ (7 : Int) < x.toInt := by
  have g0 : ¬ x.toInt = 0 := fun h => h0 (Int32.toInt_inj.mp (by rw [h]; rfl))
  have g1 : ¬ x.toInt = 1 := fun h => h1 (Int32.toInt_inj.mp (by rw [h]; rfl))
  have g2 : ¬ x.toInt = 2 := fun h => h2 (Int32.toInt_inj.mp (by rw [h]; rfl))
  have g3 : ¬ x.toInt = 3 := fun h => h3 (Int32.toInt_inj.mp (by rw [h]; rfl))
  have g4 : ¬ x.toInt = 4 := fun h => h4 (Int32.toInt_inj.mp (by rw [h]; rfl))
  have g5 : ¬ x.toInt = 5 := fun h => h5 (Int32.toInt_inj.mp (by rw [h]; rfl))
  have g6 : ¬ x.toInt = 6 := fun h => h6 (Int32.toInt_inj.mp (by rw [h]; rfl))
  have g7 : ¬ x.toInt = 7 := fun h => h7 (Int32.toInt_inj.mp (by rw [h]; rfl))
  omega
theorem sh4 {x : Int32} (h : vp_in x 4) (h0 : ¬ x = 0) (h1 : ¬ x = 1) (h2 : ¬ x = 2) : x = 3 := by
  obtain ⟨j, hj, rfl⟩ := vp_in_of h (by decide)
  have e : j = 0 ∨ j = 1 ∨ j = 2 ∨ j = 3 := by omega
  rcases e with rfl | rfl | rfl | rfl
  · exact absurd rfl h0
  · exact absurd rfl h1
  · exact absurd rfl h2
  · rfl
/-! ===== constructors ===== -/
abbrev rmc (fr lo mc ms : Nat) : Room := { frames := fr, cells := mc, slots := ms, locals := lo }
def CC {S : Type} (G : va_G) (A : Nat → Prop) (h0 : Nat) (wl : S → (Nat → Nat) → va_W) : S → State → Prop := fun u t => ∃ a : Nat → Nat, a 0 = h0 ∧ va_P G vwCl (wl u a) t.heap ∧ va_D A (wl u a)
def MC {S : Type} (l : Launch) (G : va_G) (k : Nat → ClassId) (y : MethodName) (ws : List Cond) (fr lo mc ms : Nat) (h0 : Nat) (w : va_W) (wl : S → (Nat → Nat) → va_W) (post : S → Prop) : Prop := ∀ sz : Nat, Met l y ws (rmc fr lo mc ms) (va_Pc [.ref h0] (CP G k w sz)) (va_Qv post (CC G (va_A w sz) h0 wl) (va_A w sz)) mc ms (va_A w sz)
theorem mc_start {S : Type} {l : Launch} {G : va_G} {k : Nat → ClassId} {y : MethodName} {fr lo mc ms h0 : Nat} {w : va_W} {wl : S → (Nat → Nat) → va_W} {cc : ByteArray} {maxL : Nat} {post : S → Prop} (hy : plainName y.cls = true) (hlen : (lg_sl [.ref h0]).length ≤ maxL)
    (body : ∀ (p : Program) (e : Env) (s : State) (m : MethodId) (below : List Frame) (meth : Method) (c : Code) (A : Nat → Prop) (ls : Array Slot), p.tables.exec = Jvm.exec → c.code = cc → meth.sig.returnType = none → meth.locks = false → c.maxLocals = maxL → s.vm.findClass y.cls = some m.cls → meth.name = y.name → (∀ w ∈ wT, w.before ([.ref h0] : List Value).toArray s = true) → va_K G vwCl (TYS k) s → va_P G vwCl w s.heap → va_D A w → (∀ q, s.heap.size ≤ q → A q) → va_S A s.heap s.heap [] → SX k A s s.heap → lv_has ls maxL [(0, .ref h0)] →
      W p l e (rmc fr lo mc ms) s m ([.ref h0] : List Value).toArray below meth c s.heap [] 0 0 (MQ below (va_Qv post (CC G A h0 wl) A) ([.ref h0] : List Value).toArray s mc ms A) (F0 m 0 ls [])) : MC l G k y (Cond.code y cc maxL none :: wT) fr lo mc ms h0 w wl post := by
  intro sz
  refine Met.ofW (cc := cc) (maxL := maxL) (ret := none) hy rfl ?_
  intro p e s m args below meth c s₁ B hml hv
  obtain ⟨rfl, hsz, hP, hK, hD0, hX⟩ := hv
  have hts : ∀ w ∈ wT, w.before ([.ref h0] : List Value).toArray s = true := fun w h => atoms_spec (ws := Cond.code y cc maxL none :: wT) B.pre w (List.mem_cons_of_mem _ h)
  have hown : s.vm.findClass y.cls = some m.cls := findClass_of_methodNamed B.named
  have hin : meth.name = y.name := (name_of_methodNamed B.named B.method).1
  subst hsz
  have hD := hD0.self (sz := s.heap.size)
  generalize hAe : va_A w s.heap.size = A at hD hX ⊢
  have hA : ∀ q : Nat, s.heap.size ≤ q → A q := fun q h => by rw [← hAe]; exact Or.inr h
  have hl := lv_entry ([.ref h0] : List Value) (n := maxL) hlen
  rw [lg_entry_eq]
  exact body p e s m below meth c A _ B.exec B.bytes B.returns B.notSynchronized hml hown hin hts hK hP hD hA va_S.rf hX hl
theorem sm_I {G : va_G} {k : Nat → ClassId} {cA : ClassId} {s : State} (h : va_K G vwCl (TYS k ++ [(cA, .int)]) s) : cA = k 0 := by
  have h1 : s.vm.findClass ("[" ++ FieldType.int.toString) = some cA := (h.2 4 (cA, .int) rfl).2
  have h2 : s.vm.findClass ("[" ++ FieldType.int.toString) = some (k 0) := (h.2 0 (k 0, .int) rfl).2
  exact Option.some.inj (h1.symm.trans h2)
theorem sm_C {G : va_G} {k : Nat → ClassId} {cA : ClassId} {s : State} (h : va_K G vwCl (TYS k ++ [(cA, .char)]) s) : cA = k 1 := by
  have h1 : s.vm.findClass ("[" ++ FieldType.char.toString) = some cA := (h.2 4 (cA, .char) rfl).2
  have h2 : s.vm.findClass ("[" ++ FieldType.char.toString) = some (k 1) := (h.2 1 (k 1, .char) rfl).2
  exact Option.some.inj (h1.symm.trans h2)
theorem sm_J {G : va_G} {k : Nat → ClassId} {cA : ClassId} {s : State} (h : va_K G vwCl (TYS k ++ [(cA, .long)]) s) : cA = k 2 := by
  have h1 : s.vm.findClass ("[" ++ FieldType.long.toString) = some cA := (h.2 4 (cA, .long) rfl).2
  have h2 : s.vm.findClass ("[" ++ FieldType.long.toString) = some (k 2) := (h.2 2 (k 2, .long) rfl).2
  exact Option.some.inj (h1.symm.trans h2)
theorem sm_Q {G : va_G} {k : Nat → ClassId} {cA : ClassId} {s : State} (h : va_K G vwCl (TYS k ++ [(cA, .object "LameClocks$Sheet")]) s) : cA = k 3 := by
  obtain ⟨_, _, -, -, -, h1⟩ := (h.2 4 (cA, .object "LameClocks$Sheet") rfl).2
  obtain ⟨_, _, -, -, -, h2⟩ := (h.2 3 (k 3, .object "LameClocks$Sheet") rfl).2
  exact Option.some.inj (h1.symm.trans h2)
section Makes
variable {p : Program} {l : Launch} {e : Env} {R : Room} {s : State} {m : MethodId} {args : Array Value} {below : List Frame} {meth : Method} {c : Code} {H : Heap} {locs : List Loc} {cells slots : Nat} {Q : State → Prop}
variable {cc : ByteArray} {pc : Nat} {ls : Array Slot} {G : va_G} {k : Nat → ClassId} {A : Nat → Prop} {S : Type}
theorem ret_c {h0 : Nat} {wl : S → (Nat → Nat) → va_W} {post : S → Prop} (hx : p.tables.exec = Jvm.exec) (hb : c.code = cc) (hr : meth.sig.returnType = none) (hk : meth.locks = false) (u : S) (a : Nat → Nat) (ha : a 0 = h0) (hf : post u) (hP : va_P G vwCl (wl u a) H) (hD : va_D A (wl u a)) (hS : va_S A s.heap H locs) (hdg : decode cc pc = .ok (.return_, 1)) :
    W p l e R s m args below meth c H locs cells slots (MQ below (va_Qv post (CC G A h0 wl) A) args s cells slots A) (F0 m pc ls []) :=
  W.vret hx hb hr (fun t ht _ => ⟨⟨u, rfl, hf, a, ha, by rw [ht]; exact hP, hD⟩, hS.F ht⟩) hS.2.2 hdg hk
variable {st rest : List Value} {bytes : ByteArray} {nL maxL index fr lo mc ms : Nat} {y : MethodName} {own : String} {b : Addr} {w wr : va_W} {e0 : va_E} {wl : S → (Nat → Nat) → va_W}
theorem gT {y : MethodName} {bytes : ByteArray} {ret : Option FieldType} (m5 : Cond.code y bytes maxL ret ∈ wT) : GoodIn wT (Cond.code y bytes maxL ret :: wT) := fun w hw => by
  rcases List.mem_cons.mp hw with rfl | hw
  · exact ⟨m5, T_good _ m5⟩
  · exact ⟨hw, T_good _ hw⟩
theorem cci_core {post : S → Prop} (hM : MC l G k y (Cond.code y bytes maxL none :: wT) fr lo mc ms b [(b, e0)] wl post)
    (hK : va_K G vwCl (TYS k) s) (hP : va_P G vwCl w H) (hD : va_D A w) (hS : va_S A s.heap H locs) (hX : SX k A s s.heap) (hA : ∀ q, s.heap.size ≤ q → A q)
    (q0 : Nat) (isR : List Nat) (hC : w[q0]? = some (b, e0)) (hR : isR.map (fun i => w[i]?) = wr.map some) (hnd : va_nd isR = true) (hdis : q0 ∉ isR)
    (run : ∀ (Pc : Array Value → State → Prop) (Qc : Array Value → State → Outcome → State → Prop) (free : Addr → Prop), Met l y (Cond.code y bytes maxL none :: wT) (rmc fr lo mc ms) Pc Qc mc ms free → PreS s H Pc [.ref b] → va_Run p l e R s m args below meth c H locs cells slots mc ms (F0 m pc ls st) rest (Qc ([Value.ref b]).toArray) free)
    (kk : ∀ (u : S) (a : Nat → Nat) (H1 : Heap) (locs1 : List Loc), a 0 = b → post u → va_P G vwCl (wr ++ wl u a) H1 → va_D A (wr ++ wl u a) → va_S A s.heap H1 locs1 → W p l e R s m args below meth c H1 locs1 (cells + mc) (slots + ms) Q (F0 m (pc + 3) ls rest)) :
    W p l e R s m args below meth c H locs cells slots Q (F0 m pc ls st) := by
  have hC2 : [q0].map (fun i => w[i]?) = ([(b, e0)] : va_W).map some := by simp [hC]
  have hPc : va_P G vwCl [(b, e0)] H := P_map hP [q0] hC2
  have hDc : va_D (fun _ => True) [(b, e0)] := (hD.sub [q0] (by simp [va_nd]) hC2).weaken (fun _ _ _ _ => trivial)
  have hFc := va_free (wc := [(b, e0)]) hD hS hA [q0] hC2
  refine va_callv (run _ _ _ (hM H.size) ⟨cp_blind, fun U hU hW => ⟨rfl, by rw [hU], by rw [hU]; exact hPc, va_K.moved hW.alike hK, hDc, hX.to hS hW hFc hU⟩⟩) hS (fun q _ h => hFc q h) hFc (fun u t H1 locs1 ht hvm hw hB hz hk hS1 => ?_)
  obtain ⟨a, ha, hP1, hD1⟩ := hB
  rw [ht] at hP1
  obtain ⟨hP2, hD2⟩ := va_join hP hD [q0] isR hC2 hR hnd (fun i hi h => hdis (by rw [List.mem_singleton.mp h] at hi; exact hi)) hk hFc hP1 hD1
  exact kk u a H1 locs1 ha hw hP2 hD2 hS1
theorem range_left (wr x : va_W) : (List.range wr.length).map (fun i => (wr ++ x)[i]?) = wr.map some := by
  apply List.ext_getElem?
  intro i
  rw [List.getElem?_map, List.getElem?_map]
  by_cases h : i < wr.length
  · rw [List.getElem?_range h, List.getElem?_eq_getElem h]
    simp [List.getElem?_append_left h, List.getElem?_eq_getElem h]
  · rw [List.getElem?_eq_none (by simpa using h), List.getElem?_eq_none (by simpa using h)]
    rfl
theorem nd_range : ∀ n, va_nd (List.range n) = true := by
  intro n
  have key : ∀ l : List Nat, l.Nodup → va_nd l = true := by
    intro l
    induction l with
    | nil => intro _; simp [va_nd]
    | cons a r ih =>
      intro h
      rw [List.nodup_cons] at h
      simp [va_nd, h.1, ih h.2]
  exact key _ List.nodup_range
theorem cci {post : S → Prop} (F : CallFix p m c cc nL s args wT own) (hM : MC l G k y (Cond.code y bytes maxL none :: wT) fr lo mc ms b [(b, e0)] wl post)
    (m1 : Cond.methodLink own index y ∈ wT) (m2 : Cond.instanceMethod y ∈ wT) (m4 : Cond.initialized y.cls ∈ wT) (m5 : Cond.code y bytes maxL none ∈ wT) (hy1 : y.name = "<init>")
    (hd : y.cls ≠ "java/lang/invoke/MethodHandle" ∧ y.cls ≠ "java/lang/invoke/VarHandle" ∧ (parseMethodDescriptor y.desc).map (fun d => d.parameters.length) = some 0) (hR0 : fr + 1 ≤ R.frames ∧ 8 + (maxL + 11) + lo ≤ R.locals)
    (hK : va_K G vwCl (TYS k) s) (hP : va_P G vwCl (wr ++ [(b, e0)]) H) (hD : va_D A (wr ++ [(b, e0)])) (hS : va_S A s.heap H locs) (hX : SX k A s s.heap) (hA : ∀ q, s.heap.size ≤ q → A q)
    (hsize : ls.size = nL) (hst : st = .ref b :: rest) (hW : (rest.map fun v => v.category).sum ≤ 8) (hdg : decode cc pc = .ok (.invokespecial index, 3)) (hcs : cells + mc ≤ R.cells) (hss : slots + ms ≤ R.slots)
    (kk : ∀ (u : S) (a : Nat → Nat) (H1 : Heap) (locs1 : List Loc), a 0 = b → post u → va_P G vwCl (wr ++ wl u a) H1 → va_D A (wr ++ wl u a) → va_S A s.heap H1 locs1 → W p l e R s m args below meth c H1 locs1 (cells + mc) (slots + ms) Q (F0 m (pc + 3) ls rest)) :
    W p l e R s m args below meth c H locs cells slots Q (F0 m pc ls st) :=
  cci_core hM hK hP hD hS hX hA wr.length (List.range wr.length) (by simp) (range_left wr _) (nd_range _) (by simp) (fun _ _ _ hm hp => va_runI (As := []) (rest := rest) F hm (cwI 0 F.2.2.2.2 (gT m5) rfl rfl rfl (F.2.2.2.2 _ m4) (F.2.2.2.2 _ m1) (F.2.2.2.2 _ m2) hy1 hd hR0) hp rfl rfl hsize hst (lv_room hW) hdg ⟨hcs, hss⟩) kk
theorem ccn {post : S → Prop} {host : String} (F : CallFix p m c cc nL s args wT own) (hM : MC l G k y (Cond.code y bytes maxL none :: wT) fr lo mc ms b [(b, e0)] wl post)
    (m1 : va_Nw (.methodLinkNest own index y host) s) (m2 : Cond.instanceMethod y ∈ wT) (m4 : Cond.initialized y.cls ∈ wT) (m5 : Cond.code y bytes maxL none ∈ wT) (hy1 : y.name = "<init>")
    (hd : y.cls ≠ "java/lang/invoke/MethodHandle" ∧ y.cls ≠ "java/lang/invoke/VarHandle" ∧ (parseMethodDescriptor y.desc).map (fun d => d.parameters.length) = some 0) (hR0 : fr + 1 ≤ R.frames ∧ 8 + (maxL + 11) + lo ≤ R.locals)
    (hK : va_K G vwCl (TYS k) s) (hP : va_P G vwCl (wr ++ [(b, e0)]) H) (hD : va_D A (wr ++ [(b, e0)])) (hS : va_S A s.heap H locs) (hX : SX k A s s.heap) (hA : ∀ q, s.heap.size ≤ q → A q)
    (hsize : ls.size = nL) (hst : st = .ref b :: rest) (hW : (rest.map fun v => v.category).sum ≤ 8) (hdg : decode cc pc = .ok (.invokespecial index, 3)) (hcs : cells + mc ≤ R.cells) (hss : slots + ms ≤ R.slots)
    (kk : ∀ (u : S) (a : Nat → Nat) (H1 : Heap) (locs1 : List Loc), a 0 = b → post u → va_P G vwCl (wr ++ wl u a) H1 → va_D A (wr ++ wl u a) → va_S A s.heap H1 locs1 → W p l e R s m args below meth c H1 locs1 (cells + mc) (slots + ms) Q (F0 m (pc + 3) ls rest)) :
    W p l e R s m args below meth c H locs cells slots Q (F0 m pc ls st) :=
  cci_core hM hK hP hD hS hX hA wr.length (List.range wr.length) (by simp) (range_left wr _) (nd_range _) (by simp) (fun _ _ _ hm hp => va_runIN (As := []) (rest := rest) F hm ⟨va_cnB 0 F.2.2.2.2 (gT m5) rfl rfl rfl m1 (F.2.2.2.2 _ m4) hd hR0, hy1, F.2.2.2.2 _ m2⟩ hp rfl rfl hsize hst (lv_room hW) hdg ⟨hcs, hss⟩) kk
end Makes
def fl (x : Int32) (f : Nat → Int32) : Nat → Nat → Int32
  | 0 => f
  | n + 1 => upd (fl x f n) n x
theorem fl_at (x : Int32) (f : Nat → Int32) : ∀ n j : Nat, fl x f n j = if j < n then x else f j := by
  intro n
  induction n with
  | zero => intro j; simp [fl]
  | succ n ih =>
    intro j
    show upd (fl x f n) n x j = _
    unfold upd
    by_cases h : j = n
    · simp [h]
    · rw [if_neg h, ih j]
      by_cases h2 : j < n
      · rw [if_pos h2, if_pos (by omega)]
      · rw [if_neg h2, if_neg (by omega)]
theorem D_addr {A : Nat → Prop} {w w2 : va_W} (e : w.map (fun q => q.1) = w2.map (fun q => q.1)) (h : va_D A w2) : va_D A w := by
  have key : ∀ (i : Nat) (p : Nat × va_E), w[i]? = some p → ∃ q, w2[i]? = some q ∧ q.1 = p.1 := by
    intro i p hp
    have h1 : (w.map (fun q => q.1))[i]? = some p.1 := by rw [List.getElem?_map, hp]; rfl
    rw [e, List.getElem?_map] at h1
    cases hq : w2[i]? with
    | none => rw [hq] at h1; cases h1
    | some q => rw [hq] at h1; exact ⟨q, rfl, Option.some.inj h1⟩
  refine ⟨fun i j p q hp hq hpq => ?_, fun i p hp => ?_⟩
  · obtain ⟨p2, h1, h2⟩ := key i p hp
    obtain ⟨q2, h3, h4⟩ := key j q hq
    exact h.1 i j p2 q2 h1 h3 (by rw [h2, h4, hpq])
  · obtain ⟨p2, h1, h2⟩ := key i p hp
    rw [← h2]
    exact h.2 i p2 h1
/-- a row of references by its first n places -/
theorem q_congr {G : va_G} {cl : List vw_C} {w : va_W} {H : Heap} (i : Nat) {q n : Nat} {cA : ClassId} {f g : Nat → Option Nat} (h : va_P G cl w H) (hi : w[i]? = some (q, .inl (cA, n, .inr (.inr (.inr (.inr f)))))) (hfg : ∀ j, j < n → f j = g j) : va_P G cl (w.set i (q, .inl (cA, n, .inr (.inr (.inr (.inr g)))))) H := by
  intro j r hr
  by_cases e : i = j
  · subst e
    rw [List.getElem?_set_self (by
      have := List.getElem?_eq_some_iff.mp hi
      exact this.1)] at hr
    cases hr
    have h1 : H[q]? = some (vp_cell cA (n, .inr (.inr (.inr (.inr f))))) := h i _ hi
    show H[q]? = some (vp_cell cA (n, .inr (.inr (.inr (.inr g)))))
    rw [h1, vp_cell_q, vp_cell_q]
    congr 1
    unfold arrV
    congr 1
    congr 1
    funext t
    show va_rf (f t.1) = va_rf (g t.1)
    rw [hfg t.1 t.2]
  · rw [List.getElem?_set_ne e] at hr
    exact h j r hr
/-- one address function out of several, laid behind each other -/
def adL : List (Nat × (Nat → Nat)) → Nat → Nat
  | [], _ => 0
  | (n, a) :: r, j => if j < n then a j else adL r (j - n)
theorem adL_skip {n t m j : Nat} {a : Nat → Nat} {r : List (Nat × (Nat → Nat))} (h : t = n + m) : adL ((n, a) :: r) (j + t) = adL r (j + m) := by
  show (if j + t < n then a (j + t) else adL r (j + t - n)) = _
  rw [if_neg (by omega), show j + t - n = j + m by omega]
theorem adL_here {n m j : Nat} {a : Nat → Nat} {r : List (Nat × (Nat → Nat))} (h : j + m < n) : adL ((n, a) :: r) (j + m) = a (j + m) := by
  show (if j + m < n then a (j + m) else adL r (j + m - n)) = _
  rw [if_pos h]
theorem P_perm {G : va_G} {cl : List vw_C} {w w2 : va_W} {H : Heap} (e : w.Perm w2) (h : va_P G cl w H) : va_P G cl w2 H := by
  intro i q hq
  obtain ⟨j, hj⟩ := List.getElem?_of_mem (e.symm.subset (List.mem_of_getElem? hq))
  exact h j q hj
theorem D_nodup {A : Nat → Prop} {w : va_W} (h : va_D A w) : (w.map (fun q => q.1)).Nodup := by
  unfold List.Nodup
  rw [List.pairwise_iff_getElem]
  intro i j hi hj hij he
  have hi' : i < w.length := by simpa using hi
  have hj' : j < w.length := by simpa using hj
  rw [List.getElem_map, List.getElem_map] at he
  exact absurd (h.1 i j _ _ (List.getElem?_eq_getElem hi') (List.getElem?_eq_getElem hj') he) (Nat.ne_of_lt hij)
theorem D_of_nodup {A : Nat → Prop} {w : va_W} (h : (w.map (fun q => q.1)).Nodup) (hA : ∀ q ∈ w, A q.1) : va_D A w := by
  unfold List.Nodup at h
  rw [List.pairwise_iff_getElem] at h
  have key : ∀ (i j : Nat) (p q : Nat × va_E), w[i]? = some p → w[j]? = some q → p.1 = q.1 → ¬ i < j := by
    intro i j p q hp hq hpq hij
    obtain ⟨hi, ei⟩ := List.getElem?_eq_some_iff.mp hp
    obtain ⟨hj, ej⟩ := List.getElem?_eq_some_iff.mp hq
    have h1 := h i j (by simpa using hi) (by simpa using hj) hij
    rw [List.getElem_map, List.getElem_map, ei, ej] at h1
    exact h1 hpq
  refine ⟨fun i j p q hp hq hpq => ?_, fun i q hq => hA q (List.mem_of_getElem? hq)⟩
  have h1 := key i j p q hp hq hpq
  have h2 := key j i q p hq hp hpq.symm
  omega
theorem D_perm {A : Nat → Prop} {w w2 : va_W} (e : w.Perm w2) (h : va_D A w) : va_D A w2 := by
  refine D_of_nodup ((e.map _).nodup_iff.mp (D_nodup h)) (fun q hq => ?_)
  obtain ⟨j, hj⟩ := List.getElem?_of_mem (e.symm.subset hq)
  exact h.2 j q hj
theorem perm7 (c0 cG cS : Nat × va_E) (n q t p d s0 s1 s2 s3 : va_W) : (c0 :: cS :: (s3 ++ (s2 ++ (s1 ++ (s0 ++ (([] ++ n ++ q ++ t ++ p ++ d) ++ [cG])))))).Perm ([c0, cG, cS] ++ n ++ q ++ t ++ p ++ d ++ s0 ++ s1 ++ s2 ++ s3) := by
  have h1 : (s3 ++ (s2 ++ (s1 ++ (s0 ++ (([] ++ n ++ q ++ t ++ p ++ d) ++ [cG]))))).Perm ((((([] ++ n ++ q ++ t ++ p ++ d) ++ [cG]) ++ s0) ++ s1) ++ s2 ++ s3) := by
    refine List.perm_append_comm.trans (List.Perm.append_right s3 ?_)
    refine List.perm_append_comm.trans (List.Perm.append_right s2 ?_)
    refine List.perm_append_comm.trans (List.Perm.append_right s1 ?_)
    exact List.perm_append_comm
  have h2 : ((((([] ++ n ++ q ++ t ++ p ++ d) ++ [cG]) ++ s0) ++ s1) ++ s2 ++ s3).Perm (cG :: (n ++ q ++ t ++ p ++ d ++ s0 ++ s1 ++ s2 ++ s3)) := by
    have := List.perm_middle (a := cG) (l₁ := n ++ q ++ t ++ p ++ d) (l₂ := s0 ++ s1 ++ s2 ++ s3)
    simpa [List.append_assoc] using this
  have h3 := h1.trans h2
  refine List.Perm.cons c0 ?_
  refine (List.Perm.cons cS h3).trans ?_
  have h4 := List.Perm.swap cG cS (n ++ q ++ t ++ p ++ d ++ s0 ++ s1 ++ s2 ++ s3)
  simpa [List.append_assoc] using h4
def sgX0 (k : Nat → ClassId) (a : Nat → Nat) (v_size : Int32) (v_on : Nat → Int32) (v_stake : Nat → Int32) : va_W := [(a 0, .inr (0, [.int v_size, .ref (a 1), .ref (a 2)])), (a 1, .inl (k 0, 6, .inl v_on)), (a 2, .inl (k 0, 6, .inl v_stake))]
theorem sgX0_cg {k : Nat → ClassId} {a b : Nat → Nat} {v_size : Int32} {v_on : Nat → Int32} {v_stake : Nat → Int32} (h : ∀ j, j < 3 → a j = b j) : sgX0 k a v_size v_on v_stake = sgX0 k b v_size v_on v_stake := by
  unfold sgX0
  rw [h 0 (by decide), h 1 (by decide), h 2 (by decide)]
def sgX1 (k : Nat → ClassId) (a : Nat → Nat) (v_size : Int32) (v_act : Nat → Int32) (v_whom : Nat → Int32) (v_amount : Nat → Int32) : va_W := [(a 0, .inr (1, [.int v_size, .ref (a 1), .ref (a 2), .ref (a 3)])), (a 1, .inl (k 0, 80, .inl v_act)), (a 2, .inl (k 0, 80, .inl v_whom)), (a 3, .inl (k 0, 80, .inl v_amount))]
theorem sgX1_cg {k : Nat → ClassId} {a b : Nat → Nat} {v_size : Int32} {v_act : Nat → Int32} {v_whom : Nat → Int32} {v_amount : Nat → Int32} (h : ∀ j, j < 4 → a j = b j) : sgX1 k a v_size v_act v_whom v_amount = sgX1 k b v_size v_act v_whom v_amount := by
  unfold sgX1
  rw [h 0 (by decide), h 1 (by decide), h 2 (by decide), h 3 (by decide)]
def sgX2 (k : Nat → ClassId) (a : Nat → Nat) (v_windows : Int32) (v_dials : Nat → Int32) (v_clocks : Int32) (v_kind : Nat → Int32) (v_hands : Nat → Int32) (v_rate : Nat → Int32) (v_spring : Nat → Int32) (v_window : Nat → Int32) (v_finish : Nat → Int32) (v_skies : Int32) (v_sky : Nat → Int32) (v_hour : Int32) (v_heard : Int32) (v_strokes : Int32) : va_W := [(a 0, .inr (2, [.int v_windows, .ref (a 1), .int v_clocks, .ref (a 2), .ref (a 3), .ref (a 4), .ref (a 5), .ref (a 6), .ref (a 7), .int v_skies, .ref (a 8), .int v_hour, .int v_heard, .int v_strokes])), (a 1, .inl (k 0, 24, .inl v_dials)), (a 2, .inl (k 0, 9, .inl v_kind)), (a 3, .inl (k 0, 9, .inl v_hands)), (a 4, .inl (k 0, 9, .inl v_rate)), (a 5, .inl (k 0, 9, .inl v_spring)), (a 6, .inl (k 0, 9, .inl v_window)), (a 7, .inl (k 0, 9, .inl v_finish)), (a 8, .inl (k 0, 12, .inl v_sky))]
theorem sgX2_cg {k : Nat → ClassId} {a b : Nat → Nat} {v_windows : Int32} {v_dials : Nat → Int32} {v_clocks : Int32} {v_kind : Nat → Int32} {v_hands : Nat → Int32} {v_rate : Nat → Int32} {v_spring : Nat → Int32} {v_window : Nat → Int32} {v_finish : Nat → Int32} {v_skies : Int32} {v_sky : Nat → Int32} {v_hour : Int32} {v_heard : Int32} {v_strokes : Int32} (h : ∀ j, j < 9 → a j = b j) : sgX2 k a v_windows v_dials v_clocks v_kind v_hands v_rate v_spring v_window v_finish v_skies v_sky v_hour v_heard v_strokes = sgX2 k b v_windows v_dials v_clocks v_kind v_hands v_rate v_spring v_window v_finish v_skies v_sky v_hour v_heard v_strokes := by
  unfold sgX2
  rw [h 0 (by decide), h 1 (by decide), h 2 (by decide), h 3 (by decide), h 4 (by decide), h 5 (by decide), h 6 (by decide), h 7 (by decide), h 8 (by decide)]
def sgX3 (k : Nat → ClassId) (a : Nat → Nat) (v_known : Int32) (v_act : Nat → Int32) (v_whom : Nat → Int32) (v_was : Nat → Int32) : va_W := [(a 0, .inr (3, [.int v_known, .ref (a 1), .ref (a 2), .ref (a 3)])), (a 1, .inl (k 0, 10, .inl v_act)), (a 2, .inl (k 0, 10, .inl v_whom)), (a 3, .inl (k 0, 10, .inl v_was))]
theorem sgX3_cg {k : Nat → ClassId} {a b : Nat → Nat} {v_known : Int32} {v_act : Nat → Int32} {v_whom : Nat → Int32} {v_was : Nat → Int32} (h : ∀ j, j < 4 → a j = b j) : sgX3 k a v_known v_act v_whom v_was = sgX3 k b v_known v_act v_whom v_was := by
  unfold sgX3
  rw [h 0 (by decide), h 1 (by decide), h 2 (by decide), h 3 (by decide)]
def sgX4 (k : Nat → ClassId) (a : Nat → Nat) (v_isThere : Int32) (v_lane : Int32) (v_size : Int32) (v_items : Nat → Int64) : va_W := [(a 0, .inr (4, [.int v_isThere, .int v_lane, .int v_size, .ref (a 1)])), (a 1, .inl (k 2, 24, .inr (.inl v_items)))]
theorem sgX4_cg {k : Nat → ClassId} {a b : Nat → Nat} {v_isThere : Int32} {v_lane : Int32} {v_size : Int32} {v_items : Nat → Int64} (h : ∀ j, j < 2 → a j = b j) : sgX4 k a v_isThere v_lane v_size v_items = sgX4 k b v_isThere v_lane v_size v_items := by
  unfold sgX4
  rw [h 0 (by decide), h 1 (by decide)]
def sgX5 (k : Nat → ClassId) (a : Nat → Nat) (v_letters : Nat → Int32) (v_size : Int32) (v_at : Int32) (v_passed : Int32) (v_fault : Int32) : va_W := [(a 0, .inr (5, [.ref (a 1), .int v_size, .int v_at, .int v_passed, .int v_fault])), (a 1, .inl (k 1, 160, .inl v_letters))]
theorem sgX5_cg {k : Nat → ClassId} {a b : Nat → Nat} {v_letters : Nat → Int32} {v_size : Int32} {v_at : Int32} {v_passed : Int32} {v_fault : Int32} (h : ∀ j, j < 2 → a j = b j) : sgX5 k a v_letters v_size v_at v_passed v_fault = sgX5 k b v_letters v_size v_at v_passed v_fault := by
  unfold sgX5
  rw [h 0 (by decide), h 1 (by decide)]
def sgX6 (k : Nat → ClassId) (a : Nat → Nat) (v_draw : Int32) : va_W := [(a 0, .inr (6, [.ref (a 1), .ref (a 10), .ref (a 13), .int v_draw]))]
theorem sgX6_cg {k : Nat → ClassId} {a b : Nat → Nat} {v_draw : Int32} (h : ∀ j, j < 14 → a j = b j) : sgX6 k a v_draw = sgX6 k b v_draw := by
  unfold sgX6
  rw [h 0 (by decide), h 1 (by decide), h 10 (by decide), h 13 (by decide)]
def sgX7 (k : Nat → ClassId) (a : Nat → Nat) (v_hasImage : Int32) (v_gains : Nat → Int32) : va_W := [(a 0, .inr (7, [.ref (a 3), .ref (a 20), .int v_hasImage, .ref (a 37), .ref (a 46), .ref (a 48), .ref (a 1), .ref (a 2)])), (a 1, .inl (k 0, 144, .inl v_gains)), (a 2, .inl (k 3, 4, .inr (.inr (.inr (.inr (fun j => some (a (52 + 2 * j))))))))]
def sgX8 (k : Nat → ClassId) (a : Nat → Nat) (v_st : Nat → Int32) (v_kinds : Nat → Int32) (v_rates : Nat → Int32) (v_clocks : Int32) (v_windows : Int32) (v_skyRow : Nat → Int32) (v_skyMany : Int32) (v_sky : Int32) (v_betOn : Nat → Int32) (v_stakes : Nat → Int32) (v_bets : Int32) (v_undos : Nat → Int32) (v_undoMany : Int32) (v_drawn : Int32) (v_tape : Nat → Int32) (v_taped : Int32) (v_place : Int32) (v_reads : Int32) (v_read : Nat → Int32) (v_aside : Nat → Int32) (v_duels : Nat → Int32) (v_isKept : Int32) (v_kept : Nat → Int32) (v_lanes : Nat → Int32) (v_rowSizes : Nat → Int32) (v_items : Nat → Int64) (v_moved : Nat → Int64) : va_W := [(a 0, .inr (8, [.ref (a 1), .ref (a 2), .ref (a 3), .int v_clocks, .int v_windows, .ref (a 4), .int v_skyMany, .int v_sky, .ref (a 5), .ref (a 6), .int v_bets, .ref (a 7), .int v_undoMany, .int v_drawn, .ref (a 8), .int v_taped, .int v_place, .int v_reads, .ref (a 9), .ref (a 10), .ref (a 11), .int v_isKept, .ref (a 12), .ref (a 13), .ref (a 14), .ref (a 15), .ref (a 16)])), (a 1, .inl (k 0, 63, .inl v_st)), (a 2, .inl (k 0, 9, .inl v_kinds)), (a 3, .inl (k 0, 9, .inl v_rates)), (a 4, .inl (k 0, 12, .inl v_skyRow)), (a 5, .inl (k 0, 6, .inl v_betOn)), (a 6, .inl (k 0, 6, .inl v_stakes)), (a 7, .inl (k 0, 30, .inl v_undos)), (a 8, .inl (k 0, 160, .inl v_tape)), (a 9, .inl (k 0, 480, .inl v_read)), (a 10, .inl (k 0, 63, .inl v_aside)), (a 11, .inl (k 0, 144, .inl v_duels)), (a 12, .inl (k 0, 155, .inl v_kept)), (a 13, .inl (k 0, 4, .inl v_lanes)), (a 14, .inl (k 0, 4, .inl v_rowSizes)), (a 15, .inl (k 2, 96, .inr (.inl v_items))), (a 16, .inl (k 2, 24, .inr (.inl v_moved)))]
theorem sgX8_cg {k : Nat → ClassId} {a b : Nat → Nat} {v_st : Nat → Int32} {v_kinds : Nat → Int32} {v_rates : Nat → Int32} {v_clocks : Int32} {v_windows : Int32} {v_skyRow : Nat → Int32} {v_skyMany : Int32} {v_sky : Int32} {v_betOn : Nat → Int32} {v_stakes : Nat → Int32} {v_bets : Int32} {v_undos : Nat → Int32} {v_undoMany : Int32} {v_drawn : Int32} {v_tape : Nat → Int32} {v_taped : Int32} {v_place : Int32} {v_reads : Int32} {v_read : Nat → Int32} {v_aside : Nat → Int32} {v_duels : Nat → Int32} {v_isKept : Int32} {v_kept : Nat → Int32} {v_lanes : Nat → Int32} {v_rowSizes : Nat → Int32} {v_items : Nat → Int64} {v_moved : Nat → Int64} (h : ∀ j, j < 17 → a j = b j) : sgX8 k a v_st v_kinds v_rates v_clocks v_windows v_skyRow v_skyMany v_sky v_betOn v_stakes v_bets v_undos v_undoMany v_drawn v_tape v_taped v_place v_reads v_read v_aside v_duels v_isKept v_kept v_lanes v_rowSizes v_items v_moved = sgX8 k b v_st v_kinds v_rates v_clocks v_windows v_skyRow v_skyMany v_sky v_betOn v_stakes v_bets v_undos v_undoMany v_drawn v_tape v_taped v_place v_reads v_read v_aside v_duels v_isKept v_kept v_lanes v_rowSizes v_items v_moved := by
  unfold sgX8
  rw [h 0 (by decide), h 1 (by decide), h 2 (by decide), h 3 (by decide), h 4 (by decide), h 5 (by decide), h 6 (by decide), h 7 (by decide), h 8 (by decide), h 9 (by decide), h 10 (by decide), h 11 (by decide), h 12 (by decide), h 13 (by decide), h 14 (by decide), h 15 (by decide), h 16 (by decide)]

/-! one form for all contracts of this proof, and rows for it -/
/-- the array classes that worlds hold -/
abbrev xt (cI cB : ClassId) : List (ClassId × FieldType) := [(cI, .int), (cB, .byte)]
/-- links to private members of nest mates: no word that a callee may be handed by its list, so they stand in the start -/
def xN : List Cond := [.methodLinkNest R_KeyMaker 27 y_Summer_init "KeyMaker", .methodLinkNest R_KeyMaker 34 y_Marker_init "KeyMaker", .methodLinkNest R_Marker 11 y_Summer_init "KeyMaker", .fieldLinkNest R_Summer 29 "KeyMaker" "H" "[I" "KeyMaker", .fieldLinkNest R_Summer 68 "KeyMaker" "K" "[I" "KeyMaker", .methodLinkNest R_Summer 48 y_KeyMaker_putWord "KeyMaker"]
def xn_is : Cond → Bool
  | .fieldLinkNest .. => true
  | .methodLinkNest .. => true
  | _ => false
theorem xn_all : ∀ w ∈ xN, xn_is w = true := by decide +kernel
theorem xn_on {w : Cond} (hi : xn_is w = true) : w.onTables = true := by
  cases w <;> first | rfl | exact absurd hi Bool.false_ne_true
theorem xn_warm {w : Cond} (hi : xn_is w = true) {u U : State} (hW : u.WarmedH U.vm) (h : va_Nw w u) : va_Nw w U := by
  cases w <;> first | exact va_Nw.warmF hW h | exact va_Nw.warmM hW h | exact absurd hi Bool.false_ne_true
/-- the class's two fixed tables: where they lie, what they hold; and the nest's links -/
def xZ (tK tH : Nat) (A : Nat → Prop) (U : State) (H : Heap) : Prop :=
  va_Z "KeyMaker" "K" "[I" (.ref tK) A U H ∧ va_Z "KeyMaker" "H" "[I" (.ref tH) A U H ∧ va_T .int tK 64 (fun j => .int (kK j)) A U H ∧ va_T .int tH 8 (fun j => .int (kH j)) A U H ∧ ∀ w ∈ xN, va_Nw w U
theorem xZ.warm {tK tH : Nat} {A : Nat → Prop} {u U : State} {H : Heap} (hW : u.WarmedH U.vm) (h : xZ tK tH A u H) : xZ tK tH A U H := ⟨h.1.moved hW.alike, h.2.1.moved hW.alike, h.2.2.1.moved hW.alike, h.2.2.2.1.moved hW.alike, fun w hw => xn_warm (xn_all w hw) hW (h.2.2.2.2 w hw)⟩
theorem xZ.same {tK tH : Nat} {A : Nat → Prop} {u U : State} {H : Heap} (e : u.vm = U.vm) (h : xZ tK tH A u H) : xZ tK tH A U H :=
  have hvm : u.vm.Alike U.vm := e ▸ Vm.Alike.refl u.vm
  ⟨h.1.moved hvm, h.2.1.moved hvm, h.2.2.1.moved hvm, h.2.2.2.1.moved hvm, fun w hw => va_Nw.same (xn_on (xn_all w hw)) e (h.2.2.2.2 w hw)⟩
theorem xZ.kept {tK tH : Nat} {A : Nat → Prop} {U : State} {H H1 : Heap} (h : xZ tK tH A U H) (hq : ∀ a : Nat, a < H.size → ¬ A a → H1[a]? = H[a]?) : xZ tK tH A U H1 := ⟨h.1.kept hq, h.2.1.kept hq, h.2.2.1.kept hq, h.2.2.2.1.kept hq, h.2.2.2.2⟩
theorem xZ.narrow {tK tH : Nat} {A B : Nat → Prop} {U : State} {H : Heap} (h : xZ tK tH A U H) (hAB : ∀ q, B q → A q) : xZ tK tH B U H := ⟨h.1.narrow hAB, h.2.1.narrow hAB, h.2.2.1.narrow hAB, h.2.2.2.1.narrow hAB, h.2.2.2.2⟩
/-- a nest link's word -/
theorem xZ.nest {tK tH : Nat} {A : Nat → Prop} {U : State} {H : Heap} (h : xZ tK tH A U H) {w : Cond} (k : Nat) (hk : xN[k]? = some w) : va_Nw w U := h.2.2.2.2 w (List.mem_of_getElem? hk)
/-- the words that a callee wants are among those that all methods are proved under -/
theorem xg_c {y : MethodName} {b : ByteArray} {n : Nat} {r : Option FieldType} (h : Cond.code y b n r ∈ xG) : GoodIn xG (.code y b n r :: xG) := by
  have hg : ∀ w ∈ xG, w ∈ xG ∧ ((w.onTables && w.keeps) = true ∨ ∃ ty, w = .arrayClass ty) := fun w hw => ⟨hw, good_of_word (List.mem_filter.mp hw).2⟩
  intro w hw
  rcases List.mem_cons.mp hw with e | hw
  · rw [e]; exact hg _ h
  · exact hg w hw
theorem xg_V {own C : String} {idx : Nat} {y : MethodName} {b : ByteArray} {n : Nat} {r : Option FieldType} (h1 : Cond.methodLink own idx y ∈ xG) (h2 : Cond.instanceMethod y ∈ xG) (h3 : Cond.selects C y y ∈ xG) (h4 : Cond.initialized C ∈ xG) (h : Cond.code y b n r ∈ xG) : GoodIn xG (wsV own idx C y (.code y b n r :: xG)) := by
  have hg : ∀ w ∈ xG, w ∈ xG ∧ ((w.onTables && w.keeps) = true ∨ ∃ ty, w = .arrayClass ty) := fun w hw => ⟨hw, good_of_word (List.mem_filter.mp hw).2⟩
  intro w hw
  rcases List.mem_append.mp hw with hw | hw
  · have hc : w = Cond.methodLink own idx y ∨ w = Cond.instanceMethod y ∨ w = Cond.selects C y y ∨ w = Cond.initialized C := by simpa using hw
    rcases hc with e | e | e | e <;> rw [e] <;> apply hg <;> assumption
  · exact xg_c h w hw
theorem xg_S {own : String} {idx : Nat} {y : MethodName} {b : ByteArray} {n : Nat} {r : Option FieldType} (h1 : Cond.methodLink own idx y ∈ xG) (h2 : Cond.static y ∈ xG) (h3 : Cond.initialized y.cls ∈ xG) (h : Cond.code y b n r ∈ xG) : GoodIn xG (va_wsS own idx y (.code y b n r :: xG)) := by
  have hg : ∀ w ∈ xG, w ∈ xG ∧ ((w.onTables && w.keeps) = true ∨ ∃ ty, w = .arrayClass ty) := fun w hw => ⟨hw, good_of_word (List.mem_filter.mp hw).2⟩
  intro w hw
  rcases List.mem_append.mp hw with hw | hw
  · have hc : w = Cond.methodLink own idx y ∨ w = Cond.static y ∨ w = Cond.initialized y.cls := by simpa using hw
    rcases hc with e | e | e <;> rw [e] <;> apply hg <;> assumption
  · exact xg_c h w hw
/-- a contract's start -/
def xP (G : va_G) (cI cB : ClassId) (tK tH sz : Nat) (wc : va_W) (U : State) : Prop :=
  U.heap.size = sz ∧ va_P G classes wc U.heap ∧ va_K G classes (xt cI cB) U ∧ va_D (fun _ => True) wc ∧ xZ tK tH (va_A wc sz) U U.heap
/-- a contract's end -/
def xB (G : va_G) (cI cB : ClassId) (A : Nat → Prop) {S : Type} (w1 : S → va_W) (u : S) (t : State) : Prop :=
  va_P G classes (w1 u) t.heap ∧ va_K G classes (xt cI cB) t ∧ va_D A (w1 u)
def xMi (l : Launch) (G : va_G) (cI cB : ClassId) (tK tH : Nat) (y : MethodName) (cc : ByteArray) (maxL : Nat) (ret : Option FieldType) (rm : Room) (as : List Value) (sz : Nat) (wc : va_W) {S : Type} (post : Int32 → S → Prop) (w1 : S → va_W) : Prop :=
  Met l y (.code y cc maxL ret :: xG) rm (va_Pc as (xP G cI cB tK tH sz wc)) (va_Qi post (xB G cI cB (va_A wc sz) w1) (va_A wc sz)) rm.cells rm.slots (va_A wc sz)
def xMv (l : Launch) (G : va_G) (cI cB : ClassId) (tK tH : Nat) (y : MethodName) (cc : ByteArray) (maxL : Nat) (ret : Option FieldType) (rm : Room) (as : List Value) (sz : Nat) (wc : va_W) {S : Type} (post : S → Prop) (w1 : S → va_W) : Prop :=
  Met l y (.code y cc maxL ret :: xG) rm (va_Pc as (xP G cI cB tK tH sz wc)) (va_Qv post (xB G cI cB (va_A wc sz) w1) (va_A wc sz)) rm.cells rm.slots (va_A wc sz)
section XO
variable {l : Launch} {G : va_G} {cI cB : ClassId} {tK tH : Nat} {y : MethodName} {rm : Room} {as : List Value} {sz : Nat} {wc : va_W} {S : Type} {cc : ByteArray} {maxL : Nat} {ret : Option FieldType} {lv : List (Nat × Value)}
/-- what a walk begins with -/
abbrev xO (l : Launch) (G : va_G) (cI cB : ClassId) (tK tH : Nat) (y : MethodName) (rm : Room) (as : List Value) (wc : va_W) (Qc : (Nat → Prop) → Array Value → State → Outcome → State → Prop) (cc : ByteArray) (maxL : Nat) (ret : Option FieldType) (lv : List (Nat × Value)) : Prop :=
  ∀ (p : Program) (e : Env) (s : State) (m : MethodId) (below : List Frame) (meth : Method) (c : Code) (A : Nat → Prop) (ls : Array Slot) (H : Heap) (locs : List Loc),
    p.tables.exec = Jvm.exec → c.code = cc → c.maxLocals = maxL → meth.sig.returnType = ret → meth.locks = false → (∀ x ∈ xG, x.before as.toArray s = true) → s.vm.findClass y.cls = some m.cls → meth.name = y.name →
    (∀ q : Nat, s.heap.size ≤ q → A q) → va_K G classes (xt cI cB) s → xZ tK tH A s s.heap → va_P G classes wc H → va_D A wc → va_S A s.heap H locs → lv_has ls maxL lv →
    W p l e rm s m as.toArray below meth c H locs 0 0 (MQ below (Qc A) as.toArray s rm.cells rm.slots A) (F0 m 0 ls [])
theorem xO.met {Qc : (Nat → Prop) → Array Value → State → Outcome → State → Prop} (hy : plainName y.cls = true) (hn : (lg_sl as).length ≤ maxL) (hlv : lv_args 0 as = lv)
    (body : xO l G cI cB tK tH y rm as wc Qc cc maxL ret lv) :
    Met l y (.code y cc maxL ret :: xG) rm (va_Pc as (xP G cI cB tK tH sz wc)) (Qc (va_A wc sz)) rm.cells rm.slots (va_A wc sz) := by
  refine Met.ofW (cc := cc) (maxL := maxL) (ret := ret) hy rfl ?_
  intro p e s m args below meth c s₁ B hml hv
  obtain ⟨rfl, hsz, hP, hK, hD0, hst⟩ := hv
  subst hsz
  have hl := lv_entry as (n := maxL) hn
  rw [hlv] at hl
  rw [lg_entry_eq]
  exact body p e s m below meth c (va_A wc s.heap.size) _ s.heap [] B.exec B.bytes hml B.returns B.notSynchronized (fun x hx => atoms_spec (ws := .code y cc maxL ret :: xG) B.pre x (List.mem_cons_of_mem _ hx)) (findClass_of_methodNamed B.named) (name_of_methodNamed B.named B.method).1 (fun q h => Or.inr h) hK hst hP hD0.self va_S.rf hl
theorem xMi.of {post : Int32 → S → Prop} {w1 : S → va_W} (hy : plainName y.cls = true) (hn : (lg_sl as).length ≤ maxL) (hlv : lv_args 0 as = lv)
    (body : xO l G cI cB tK tH y rm as wc (fun A => va_Qi post (xB G cI cB A w1) A) cc maxL ret lv) : xMi l G cI cB tK tH y cc maxL ret rm as sz wc post w1 := xO.met (Qc := fun A => va_Qi post (xB G cI cB A w1) A) hy hn hlv body
theorem xMv.of {post : S → Prop} {w1 : S → va_W} (hy : plainName y.cls = true) (hn : (lg_sl as).length ≤ maxL) (hlv : lv_args 0 as = lv)
    (body : xO l G cI cB tK tH y rm as wc (fun A => va_Qv post (xB G cI cB A w1) A) cc maxL ret lv) : xMv l G cI cB tK tH y cc maxL ret rm as sz wc post w1 := xO.met (Qc := fun A => va_Qv post (xB G cI cB A w1) A) hy hn hlv body
end XO
section XC
variable {p : Program} {l : Launch} {e : Env} {R : Room} {s : State} {m : MethodId} {args : Array Value} {below : List Frame} {meth : Method} {c : Code} {H : Heap} {locs : List Loc} {cells slots : Nat} {Q : State → Prop}
variable {cc : ByteArray} {pc : Nat} {ls : Array Slot} {rest st0 : List Value} {A : Nat → Prop} {a : Nat} {ws wc wr : va_W} {G : va_G} {cI cB : ClassId} {tK tH : Nat}
theorem xc_blind {as : List Value} {sz : Nat} : FrameBlind (va_Pc as (xP G cI cB tK tH sz wc)) := by
  intro a U g mk q
  obtain ⟨q0, q1, qP, qK, qD, qZ⟩ := q
  exact ⟨q0, q1, qP, va_K.moved (u := U) (U := U.calling g mk a) (Vm.Alike.refl U.vm) qK, qD, xZ.same (u := U) (U := U.calling g mk a) rfl qZ⟩
theorem xc_fm (is : List Nat) (ws wc : va_W) (h : is.map (fun i => ws[i]?) = wc.map some) : is.filterMap (fun i => ws[i]?) = wc := by
  induction is generalizing wc with
  | nil => cases wc with
    | nil => rfl
    | cons _ _ => cases h
  | cons i is ih => cases wc with
    | nil => cases h
    | cons x wc =>
      rw [List.map_cons, List.map_cons] at h
      injection h with h1 h2
      rw [List.filterMap_cons, h1]
      show x :: _ = _
      rw [ih wc h2]
/-- a callee's start, out of the caller's world -/
theorem xc_pre (hK : va_K G classes (xt cI cB) s) (hst : xZ tK tH A s s.heap) (hA : ∀ q : Nat, s.heap.size ≤ q → A q) (hP : va_P G classes ws H) (hD : va_D A ws) (hS : va_S A s.heap H locs) (isC : List Nat) (hn : va_nd isC = true) (hC : isC.map (fun i => ws[i]?) = wc.map some) (as : List Value) :
    PreS s H (va_Pc as (xP G cI cB tK tH H.size wc)) as := by
  refine ⟨xc_blind, fun U hU hW => ⟨rfl, by rw [hU], ?_, va_K.moved hW.alike hK, ?_, ?_⟩⟩
  · rw [hU]; exact hP.sub isC (xc_fm isC ws wc hC)
  · exact (hD.sub isC hn hC).weaken (fun _ _ _ _ => trivial)
  · rw [hU]; exact ((hst.kept hS.2.1).narrow (va_free hD hS hA isC hC)).warm hW
theorem xc_preV {C : String} {T : u_T} {N ci b : Nat} {fs : List Value} {As : List Value} (hK : va_K G classes (xt cI cB) s) (hst : xZ tK tH A s s.heap) (hA : ∀ q : Nat, s.heap.size ≤ q → A q) (hP : va_P G classes ws H) (hD : va_D A ws) (hS : va_S A s.heap H locs) (isC : List Nat) (hn : va_nd isC = true) (hC : isC.map (fun i => ws[i]?) = wc.map some) (q0 : Nat) (he : ws[q0]? = some (b, .inr (ci, fs))) (hc : classes[ci]? = some (C, T, N)) :
    PreV s H C b (va_Pc (.ref b :: As) (xP G cI cB tK tH H.size wc)) As :=
  ⟨xc_blind, va_recv (q := (C, T, N)) hK hP hc he, (xc_pre hK hst hA hP hD hS isC hn hC (.ref b :: As)).2⟩
/-- behind a call that answers an int -/
theorem xc_i {S : Type} {post : Int32 → S → Prop} {w1 : S → va_W} {mc ms : Nat} {ar : Array Value} (hr : va_Run p l e R s m args below meth c H locs cells slots mc ms (F0 m pc ls st0) rest (va_Qi post (xB G cI cB (va_A wc H.size) w1) (va_A wc H.size) ar) (va_A wc H.size))
    (hA : ∀ q : Nat, s.heap.size ≤ q → A q) (hP : va_P G classes ws H) (hD : va_D A ws) (hS : va_S A s.heap H locs) (isC isR : List Nat) (hC : isC.map (fun i => ws[i]?) = wc.map some) (hR : isR.map (fun i => ws[i]?) = wr.map some) (hn : va_nd isR = true) (hdis : ∀ i ∈ isR, i ∉ isC)
    (kk : ∀ (r : Int32) (u : S) (H1 : Heap) (locs1 : List Loc), post r u → va_P G classes (wr ++ w1 u) H1 → va_D A (wr ++ w1 u) → va_S A s.heap H1 locs1 → W p l e R s m args below meth c H1 locs1 (cells + mc) (slots + ms) Q (F0 m (pc + 3) ls (.int r :: rest))) :
    W p l e R s m args below meth c H locs cells slots Q (F0 m pc ls st0) := by
  have hF := va_free (wc := wc) hD hS hA isC hC
  refine va_calli hr hS (fun q _ h => hF q h) hF (fun r u t H1 locs1 ht hvm hp hB hz hk hS1 => ?_)
  obtain ⟨hP1, hK1, hD1⟩ := hB
  rw [ht] at hP1
  obtain ⟨hP2, hD2⟩ := va_join hP hD isC isR hC hR hn hdis hk hF hP1 hD1
  exact kk r u H1 locs1 hp hP2 hD2 hS1
/-- behind a call that answers nothing -/
theorem xc_v {S : Type} {post : S → Prop} {w1 : S → va_W} {mc ms : Nat} {ar : Array Value} (hr : va_Run p l e R s m args below meth c H locs cells slots mc ms (F0 m pc ls st0) rest (va_Qv post (xB G cI cB (va_A wc H.size) w1) (va_A wc H.size) ar) (va_A wc H.size))
    (hA : ∀ q : Nat, s.heap.size ≤ q → A q) (hP : va_P G classes ws H) (hD : va_D A ws) (hS : va_S A s.heap H locs) (isC isR : List Nat) (hC : isC.map (fun i => ws[i]?) = wc.map some) (hR : isR.map (fun i => ws[i]?) = wr.map some) (hn : va_nd isR = true) (hdis : ∀ i ∈ isR, i ∉ isC)
    (kk : ∀ (u : S) (H1 : Heap) (locs1 : List Loc), post u → va_P G classes (wr ++ w1 u) H1 → va_D A (wr ++ w1 u) → va_S A s.heap H1 locs1 → W p l e R s m args below meth c H1 locs1 (cells + mc) (slots + ms) Q (F0 m (pc + 3) ls rest)) :
    W p l e R s m args below meth c H locs cells slots Q (F0 m pc ls st0) := by
  have hF := va_free (wc := wc) hD hS hA isC hC
  refine va_callv hr hS (fun q _ h => hF q h) hF (fun u t H1 locs1 ht hvm hp hB hz hk hS1 => ?_)
  obtain ⟨hP1, hK1, hD1⟩ := hB
  rw [ht] at hP1
  obtain ⟨hP2, hD2⟩ := va_join hP hD isC isR hC hR hn hdis hk hF hP1 hD1
  exact kk u H1 locs1 hp hP2 hD2 hS1
/-- ends -/
theorem xe_i {S : Type} {post : Int32 → S → Prop} {w1 : S → va_W} {v : Int32} (u : S) (hx : p.tables.exec = Jvm.exec) (hb : c.code = cc) (hr : meth.sig.returnType = some .int) (hlk : meth.locks = false) (hK : va_K G classes (xt cI cB) s) (hp : post v u) (hP : va_P G classes (w1 u) H) (hD : va_D A (w1 u)) (hS : va_S A s.heap H locs) (hdg : decode cc pc = .ok (.ireturn, 1)) {kc ks : Nat} (h1 : cells ≤ kc) (h2 : slots ≤ ks) :
    W p l e R s m args below meth c H locs cells slots (MQ below (va_Qi post (xB G cI cB A w1) A) args s kc ks A) (F0 m pc ls [.int v]) :=
  W.widen h1 h2 (W.iret hx hb hr (fun t ht hW => ⟨⟨v, u, rfl, hp, by rw [ht]; exact hP, va_K.moved hW.alike hK, hD⟩, hS.F ht⟩) hS.2.2 hdg hlk)
theorem xe_z {S : Type} {post : Int32 → S → Prop} {w1 : S → va_W} {v : Int32} {ty : FieldType} (u : S) (hx : p.tables.exec = Jvm.exec) (hb : c.code = cc) (hr : meth.sig.returnType = some ty) (hnar : narrow ty (.int v) = .int v) (hlk : meth.locks = false) (hK : va_K G classes (xt cI cB) s) (hp : post v u) (hP : va_P G classes (w1 u) H) (hD : va_D A (w1 u)) (hS : va_S A s.heap H locs) (hdg : decode cc pc = .ok (.ireturn, 1)) {kc ks : Nat} (h1 : cells ≤ kc) (h2 : slots ≤ ks) :
    W p l e R s m args below meth c H locs cells slots (MQ below (va_Qi post (xB G cI cB A w1) A) args s kc ks A) (F0 m pc ls [.int v]) :=
  W.widen h1 h2 (W.zret hx hb hr hnar (fun t ht hW => ⟨⟨v, u, rfl, hp, by rw [ht]; exact hP, va_K.moved hW.alike hK, hD⟩, hS.F ht⟩) hS.2.2 hdg hlk)
theorem xe_v {S : Type} {post : S → Prop} {w1 : S → va_W} (u : S) (hx : p.tables.exec = Jvm.exec) (hb : c.code = cc) (hr : meth.sig.returnType = none) (hlk : meth.locks = false) (hK : va_K G classes (xt cI cB) s) (hp : post u) (hP : va_P G classes (w1 u) H) (hD : va_D A (w1 u)) (hS : va_S A s.heap H locs) (hdg : decode cc pc = .ok (.return_, 1)) {kc ks : Nat} (h1 : cells ≤ kc) (h2 : slots ≤ ks) :
    W p l e R s m args below meth c H locs cells slots (MQ below (va_Qv post (xB G cI cB A w1) A) args s kc ks A) (F0 m pc ls []) :=
  W.widen h1 h2 (W.vret hx hb hr (fun t ht hW => ⟨⟨u, rfl, hp, by rw [ht]; exact hP, va_K.moved hW.alike hK, hD⟩, hS.F ht⟩) hS.2.2 hdg hlk)
/-- a loop -/
theorem xl (I : Nat → Array Slot → Heap → List Loc → Prop) (st : List Value)
    (step : ∀ n, (∀ k, k < n → ∀ ls H locs, I k ls H locs → W p l e R s m args below meth c H locs cells slots Q (F0 m pc ls st)) → ∀ ls H locs, I n ls H locs → W p l e R s m args below meth c H locs cells slots Q (F0 m pc ls st)) :
    ∀ n ls H locs, I n ls H locs → W p l e R s m args below meth c H locs cells slots Q (F0 m pc ls st) := by
  intro n
  induction n using Nat.strongRecOn with
  | _ n ih => exact step n ih
/-- arrays, by Nat places -/
theorem xa_iald {tys : List (ClassId × FieldType)} {cl : List vw_C} (hx : p.tables.exec = Jvm.exec) (hb : c.code = cc) (hK : va_K G cl tys s) (hP : va_P G cl ws H) (q0 t0 : Nat) {cA : ClassId} {n : Nat} {f : Nat → Int32} {k : Nat} (ha : ws[q0]? = some (a, .inl (cA, n, .inl f))) (ht : tys[t0]? = some (cA, .int)) (hk : k < n) (hn : n < 2 ^ 31) (hdg : decode cc pc = .ok (.iaload, 1))
    (kk : W p l e R s m args below meth c H locs cells slots Q (F0 m (pc + 1) ls (.int (f k) :: rest))) : W p l e R s m args below meth c H locs cells slots Q (F0 m pc ls (.int (nI k) :: .ref a :: rest)) := by
  refine va_iald hx hb hK hP q0 t0 ha ht (vp_in_nI hk hn) hdg ?_
  rw [nI_clamp (by omega)]
  exact kk
theorem xa_bald {tys : List (ClassId × FieldType)} {cl : List vw_C} (hx : p.tables.exec = Jvm.exec) (hb : c.code = cc) (hK : va_K G cl tys s) (hP : va_P G cl ws H) (q0 t0 : Nat) {cA : ClassId} {n : Nat} {f : Nat → Int32} {k : Nat} (ha : ws[q0]? = some (a, .inl (cA, n, .inl f))) (ht : tys[t0]? = some (cA, .byte)) (hk : k < n) (hn : n < 2 ^ 31) (hdg : decode cc pc = .ok (.baload, 1))
    (kk : W p l e R s m args below meth c H locs cells slots Q (F0 m (pc + 1) ls (.int (f k) :: rest))) : W p l e R s m args below meth c H locs cells slots Q (F0 m pc ls (.int (nI k) :: .ref a :: rest)) := by
  refine va_bald hx hb hK hP q0 t0 ha ht (vp_in_nI hk hn) hdg ?_
  rw [nI_clamp (by omega)]
  exact kk
theorem xa_iast {tys : List (ClassId × FieldType)} {cl : List vw_C} {H0 : Heap} (hx : p.tables.exec = Jvm.exec) (hb : c.code = cc) (hK : va_K G cl tys s) (hP : va_P G cl ws H) (hD : va_D A ws) (hS : va_S A H0 H locs) (q0 t0 : Nat) {cA : ClassId} {n : Nat} {f : Nat → Int32} {k : Nat} {x : Int32} (ha : ws[q0]? = some (a, .inl (cA, n, .inl f))) (ht : tys[t0]? = some (cA, .int)) (hk : k < n) (hn : n < 2 ^ 31) (hdg : decode cc pc = .ok (.iastore, 1))
    (kk : ∀ (H1 : Heap) (locs1 : List Loc), va_P G cl (ws.set q0 (a, .inl (cA, n, .inl (upd f k x)))) H1 → va_D A (ws.set q0 (a, .inl (cA, n, .inl (upd f k x)))) → va_S A H0 H1 locs1 → W p l e R s m args below meth c H1 locs1 cells slots Q (F0 m (pc + 1) ls rest)) : W p l e R s m args below meth c H locs cells slots Q (F0 m pc ls (.int x :: .int (nI k) :: .ref a :: rest)) := by
  refine va_iast hx hb hK hP hD hS q0 t0 ha ht (vp_in_nI hk hn) hdg ?_
  rw [nI_clamp (by omega)]
  exact kk
theorem xa_bast {tys : List (ClassId × FieldType)} {cl : List vw_C} {H0 : Heap} (hx : p.tables.exec = Jvm.exec) (hb : c.code = cc) (hK : va_K G cl tys s) (hP : va_P G cl ws H) (hD : va_D A ws) (hS : va_S A H0 H locs) (q0 t0 : Nat) {cA : ClassId} {n : Nat} {f : Nat → Int32} {k : Nat} {x : Int32} (ha : ws[q0]? = some (a, .inl (cA, n, .inl f))) (ht : tys[t0]? = some (cA, .byte)) (hk : k < n) (hn : n < 2 ^ 31) (hdg : decode cc pc = .ok (.bastore, 1))
    (kk : ∀ (H1 : Heap) (locs1 : List Loc), va_P G cl (ws.set q0 (a, .inl (cA, n, .inl (upd f k x.toInt8.toInt32)))) H1 → va_D A (ws.set q0 (a, .inl (cA, n, .inl (upd f k x.toInt8.toInt32)))) → va_S A H0 H1 locs1 → W p l e R s m args below meth c H1 locs1 cells slots Q (F0 m (pc + 1) ls rest)) : W p l e R s m args below meth c H locs cells slots Q (F0 m pc ls (.int x :: .int (nI k) :: .ref a :: rest)) := by
  refine va_bast hx hb hK hP hD hS q0 t0 ha ht (vp_in_nI hk hn) hdg ?_
  rw [nI_clamp (by omega)]
  exact kk
/-- a fixed table -/
theorem xa_ti {t N : Nat} {f : Nat → Int32} (hx : p.tables.exec = Jvm.exec) (hb : c.code = cc) (hT : va_T .int t N (fun j => .int (f j)) A s s.heap) (hS : va_S A s.heap H locs) {k : Nat} (hk : k < N) (hn : N < 2 ^ 31) (hdg : decode cc pc = .ok (.iaload, 1))
    (kk : W p l e R s m args below meth c H locs cells slots Q (F0 m (pc + 1) ls (.int (f k) :: rest))) : W p l e R s m args below meth c H locs cells slots Q (F0 m pc ls (.int (nI k) :: .ref t :: rest)) := by
  refine va_ti hx hb hT hS (vp_in_nI hk hn) (v := .int (f k)) ?_ hdg kk
  show Value.int (f (nI k).toNatClampNeg) = _
  rw [nI_clamp (by omega)]
/-- the same array by another function -/
theorem xp_cell (cA : ClassId) {n : Nat} {f g : Nat → Int32} (h : ∀ j, j < n → f j = g j) : vp_cell cA (n, .inl f) = vp_cell cA (n, .inl g) := by
  show ({ cls := cA, slots := Array.ofFn (n := n) fun j => Value.int (f j.val), vm := .none } : Cell) = { cls := cA, slots := Array.ofFn (n := n) fun j => Value.int (g j.val), vm := .none }
  congr 1
  congr 1
  funext j
  rw [h j.val j.isLt]
theorem xp_fun {cl : List vw_C} (hP : va_P G cl ws H) (q0 : Nat) {cA : ClassId} {n : Nat} {f : Nat → Int32} (g : Nat → Int32) (ha : ws[q0]? = some (a, .inl (cA, n, .inl f))) (h : ∀ j, j < n → f j = g j) : va_P G cl (ws.set q0 (a, .inl (cA, n, .inl g))) H := by
  intro k q hk
  rw [List.getElem?_set] at hk
  split at hk
  · rename_i e
    split at hk
    · cases hk
      show H[a]? = some (vp_cell cA (n, .inl g))
      rw [← xp_cell cA h]
      exact hP q0 _ ha
    · cases hk
  · exact hP k q hk
end XC
section XK
variable {p : Program} {l : Launch} {e : Env} {R : Room} {s : State} {m : MethodId} {args : Array Value} {below : List Frame} {meth : Method} {c : Code} {H : Heap} {locs : List Loc} {cells slots : Nat} {Q : State → Prop}
variable {cc : ByteArray} {pc : Nat} {ls : Array Slot} {rest : List Value} {A : Nat → Prop} {a : Nat} {ws : va_W} {G : va_G} {cl : List vw_C} {tys : List (ClassId × FieldType)} {H0 : Heap}
/-- System.arraycopy between two int rows of the world, by Nat places -/
theorem xa_copy (hx : p.tables.exec = Jvm.exec) (hb : c.code = cc) (hml : c.maxLocals = ls.size) {own : String} {index : Nat} (hown : s.vm.findClass own = some m.cls) (hlink : (Cond.methodLink own index arraycopyName).before args s = true) (hnat : (Cond.native arraycopyName).before args s = true) (hstat : (Cond.static arraycopyName).before args s = true) (hini : (Cond.initialized "java/lang/System").before args s = true)
    (hK : va_K G cl tys s) (hP : va_P G cl ws H) (hD : va_D A ws) (hS : va_S A H0 H locs) (q0 q1 t0 t1 : Nat) {a0 : Nat} {c0 c1 : ClassId} {n0 n1 : Nat} {f g : Nat → Int32} (ha0 : ws[q0]? = some (a0, .inl (c0, n0, .inl f))) (ha1 : ws[q1]? = some (a, .inl (c1, n1, .inl g))) (ht0 : tys[t0]? = some (c0, .int)) (ht1 : tys[t1]? = some (c1, .int))
    {sp dp n : Nat} (h4 : sp + n ≤ n0) (h5 : dp + n ≤ n1) (h1 : sp < 2 ^ 31) (h2 : dp < 2 ^ 31) (h3 : n < 2 ^ 31)
    (hframes : 1 ≤ R.frames) (hlocals : (rest.map fun v => v.category).sum + (nativeFrameWords "java/lang/System" "arraycopy" 5 + 11) ≤ R.locals) (hdg : decode cc pc = .ok (.invokestatic index, 3))
    (kk : ∀ (H1 : Heap) (locs1 : List Loc), va_P G cl (ws.set q1 (a, .inl (c1, n1, .inl (va_cpy f g sp dp n)))) H1 → va_D A (ws.set q1 (a, .inl (c1, n1, .inl (va_cpy f g sp dp n)))) → va_S A H0 H1 locs1 → W p l e R s m args below meth c H1 locs1 cells slots Q (F0 m (pc + 3) ls rest)) :
    W p l e R s m args below meth c H locs cells slots Q (F0 m pc ls (.int (nI n) :: .int (nI dp) :: .ref a :: .int (nI sp) :: .ref a0 :: rest)) := by
  refine va_copyi hx hb hml hown hlink hnat hstat hini hK hP hD hS q0 q1 t0 t1 ha0 ha1 ht0 ht1 rfl (nI_pos h1) (nI_pos h2) (nI_pos h3) ?_ ?_ (fun _ _ => rfl) hframes hlocals hdg ?_
  · rw [nI_clamp h1, nI_clamp h3]; exact h4
  · rw [nI_clamp h2, nI_clamp h3]; exact h5
  · rw [nI_clamp h1, nI_clamp h2, nI_clamp h3]; exact kk
/-- System.arraycopy out of a fixed table -/
theorem xa_copyt (hx : p.tables.exec = Jvm.exec) (hb : c.code = cc) (hml : c.maxLocals = ls.size) {own : String} {index : Nat} (hown : s.vm.findClass own = some m.cls) (hlink : (Cond.methodLink own index arraycopyName).before args s = true) (hnat : (Cond.native arraycopyName).before args s = true) (hstat : (Cond.static arraycopyName).before args s = true) (hini : (Cond.initialized "java/lang/System").before args s = true)
    (hK : va_K G cl tys s) (hP : va_P G cl ws H) (hD : va_D A ws) (hS : va_S A s.heap H locs) {t N : Nat} {f : Nat → Int32} (hT : va_T .int t N (fun j => .int (f j)) A s s.heap) (q1 t1 : Nat) {c1 : ClassId} {n1 : Nat} {g : Nat → Int32} (ha1 : ws[q1]? = some (a, .inl (c1, n1, .inl g))) (ht1 : tys[t1]? = some (c1, .int))
    {sp dp n : Nat} (h4 : sp + n ≤ N) (h5 : dp + n ≤ n1) (h1 : sp < 2 ^ 31) (h2 : dp < 2 ^ 31) (h3 : n < 2 ^ 31)
    (hframes : 1 ≤ R.frames) (hlocals : (rest.map fun v => v.category).sum + (nativeFrameWords "java/lang/System" "arraycopy" 5 + 11) ≤ R.locals) (hdg : decode cc pc = .ok (.invokestatic index, 3))
    (kk : ∀ (H1 : Heap) (locs1 : List Loc), va_P G cl (ws.set q1 (a, .inl (c1, n1, .inl (va_cpy f g sp dp n)))) H1 → va_D A (ws.set q1 (a, .inl (c1, n1, .inl (va_cpy f g sp dp n)))) → va_S A s.heap H1 locs1 → W p l e R s m args below meth c H1 locs1 cells slots Q (F0 m (pc + 3) ls rest)) :
    W p l e R s m args below meth c H locs cells slots Q (F0 m pc ls (.int (nI n) :: .int (nI dp) :: .ref a :: .int (nI sp) :: .ref t :: rest)) := by
  obtain ⟨tab, g1, ⟨g2, k0, g3, g4, g5⟩, g6, g7, -, g8, g9⟩ := hT
  intro T hT X
  have cT : H[t]? = some tab := (hS.2.1 t (Array.getElem?_eq_some_iff.mp g1).1 g9).trans g1
  have cD : H[a]? = some (vp_cell c1 (n1, .inl g)) := hP q1 _ ha1
  obtain ⟨-, k1, g10, cm1, g11⟩ := (hK.2 t1 _ ht1).1 n1 (fun j => .int (g j))
  have elt : ∀ i, i < n → tab.slots.getD (sp + i) .null = .int (f (sp + i)) := fun i hi => by
    rw [Array.getD_eq_getD_getElem?, g8 _ (by omega)]
    rfl
  obtain ⟨vm', X', step⟩ := X.arraycopy hx hown hlink hnat hstat hini (src := t) (dst := a) (cs := tab) (cd := vp_cell c1 (n1, .inl g)) (srcPos := nI sp) (destPos := nI dp) (n := nI n) (by rw [hT]; exact cT) (by rw [hT]; exact cD)
    g2 (fun _ h => by cases h) g6 (fun h => by cases h) g3 g10 g5 g11 (by simp [refKind]) (nI_pos h1) (nI_pos h2) (nI_pos h3)
    (by rw [nI_toInt h1, nI_toInt h3]; omega)
    (by rw [nI_toInt h2, nI_toInt h3]; show ¬ _ > ((arrV c1 n1 (fun j => .int (g j))).slots.size : Int); rw [arrV_size]; omega)
    (fun vm₁ _ i hi => by
      rw [nI_clamp h3] at hi
      rw [nI_clamp h1, elt i hi]
      exact ⟨rfl, trivial⟩)
    (g := F0 m pc ls (.int (nI n) :: .int (nI dp) :: .ref a :: .int (nI sp) :: .ref t :: rest)) rfl (by rw [hml]) (rest := rest) rfl (by rw [hb]; exact hdg) hframes (by show 2 * 0 + _ + _ ≤ _; omega)
  have e1 : copied tab (vp_cell c1 (n1, .inl g)) (nI sp) (nI dp) (nI n) = vp_cell c1 (n1, .inl (va_cpy f g sp dp n)) := by
    have e := va_copiedX (fun z => Value.int z) tab c1 f g g8 (sp := sp) (dp := dp) (n := n) (n1 := n1) h4
    unfold copied
    rw [nI_clamp h1, nI_clamp h2, nI_clamp h3]
    exact e
  rw [e1] at X' step
  generalize hcell : vp_cell c1 (n1, .inl (va_cpy f g sp dp n)) = cell at X' step
  have hl : a < H.size := (Array.getElem?_eq_some_iff.mp cD).1
  have oq : ∀ q : Nat, q ≠ a → (H.setIfInBounds a cell)[q]? = H[q]? := fun q hq => by simp [Array.getElem?_setIfInBounds, Ne.symm hq]
  have here : va_at G cl (a, .inl (c1, n1, .inl (va_cpy f g sp dp n))) (H.setIfInBounds a cell) := by
    show (H.setIfInBounds a cell)[a]? = some (vp_cell c1 (n1, .inl (va_cpy f g sp dp n)))
    rw [hcell]
    simp [Array.getElem?_setIfInBounds, hl]
  have hheap : ((T.setVm vm').setCell a cell).heap = H.setIfInBounds a cell := by rw [← hT]; rfl
  obtain ⟨u, u1, u2⟩ := kk _ _ (hP.set hD ha1 here oq) (hD.set ha1) ⟨by simp; exact hS.1, fun q z1 z2 => (oq q (fun z => z2 (z ▸ hD.2 q1 _ ha1))).trans (hS.2.1 q z1 z2), fun q hq => by
      rcases List.mem_append.mp hq with z | z
      · exact hS.2.2 q z
      · obtain ⟨x, -, hx⟩ := List.mem_map.mp z
        rw [← hx]
        exact hD.2 q1 _ ha1⟩ _ hheap X'
  exact ⟨u, step u u1, u2⟩
/-- all int arrays are of one class, so are all byte arrays -/
theorem xk_int {cl : List vw_C} {cI cB cA : ClassId} (h : va_K G cl (xt cI cB) s) (h2 : va_K G cl (xt cI cB ++ [(cA, .int)]) s) : cA = cI :=
  Option.some.inj ((h2.2 2 (cA, .int) rfl).2.symm.trans (h.2 0 (cI, .int) rfl).2)
theorem xk_byte {cl : List vw_C} {cI cB cA : ClassId} (h : va_K G cl (xt cI cB) s) (h2 : va_K G cl (xt cI cB ++ [(cA, .byte)]) s) : cA = cB :=
  Option.some.inj ((h2.2 2 (cA, .byte) rfl).2.symm.trans (h.2 1 (cB, .byte) rfl).2)
end XK

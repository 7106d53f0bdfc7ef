-- MY OWN LAYER: pure functions of what a method answers (none: outside what is shown), and short rows for calls
abbrev S1 : Type := Nat → Nat → Int32
abbrev S2 : Type := Nat → Nat → Nat → Int32
def bn {α β : Type} (o : Option α) (k : α → Option β) : Option β := match o with
  | none => none
  | some a => k a
theorem bn_some {α β : Type} {o : Option α} {k : α → Option β} {r : β} (h : bn o k = some r) : ∃ a, o = some a ∧ k a = some r := by
  cases o with
  | none => exact nomatch (show none = some r from h)
  | some a => exact ⟨a, rfl, h⟩
def chk {β : Type} (b : Bool) (k : Option β) : Option β := cond b k none
theorem chk_some {β : Type} {b : Bool} {k : Option β} {r : β} (h : chk b k = some r) : b = true ∧ k = some r := by
  cases b with
  | false => exact nomatch (show none = some r from h)
  | true => exact ⟨rfl, h⟩
def bv {α β : Type} (e : α) (k : α → Option β) : Option β := k e
theorem bv_some {α β : Type} {e : α} {k : α → Option β} {r : β} (h : bv e k = some r) : ∃ x, x = e ∧ k x = some r := ⟨e, rfl, h⟩
def jn {κ β : Type} (k : κ) (f : κ → Option β) : Option β := f k
theorem jn_some {κ β : Type} {k : κ} {f : κ → Option β} {r : β} (h : jn k f = some r) : ∃ z, z = k ∧ f z = some r := ⟨k, rfl, h⟩
theorem ite_t {c : Prop} {d : Decidable c} {β : Type} {a b : Option β} {r : β} (h : @ite (Option β) c d a b = some r) (hc : c) : a = some r := (if_pos hc).symm.trans h
theorem ite_f {c : Prop} {d : Decidable c} {β : Type} {a b : Option β} {r : β} (h : @ite (Option β) c d a b = some r) (hc : ¬ c) : b = some r := (if_neg hc).symm.trans h
def inb (i : Int32) (n : Nat) : Bool := decide (0 ≤ i.toInt) && decide (i.toInt < (n : Int))
theorem inb_in {i : Int32} {n : Nat} (h : inb i n = true) : vp_in i n := by
  simp only [inb, Bool.and_eq_true, decide_eq_true_eq] at h
  exact vp_in_iff.mpr h
def up (u : S1) (k : Nat) (f : Nat → Int32) : S1 := fun j => cond (Nat.beq j k) f (u j)
def st (u : S1) (k : Nat) (i x : Int32) : S1 := up u k (upd (u k) i.toNatClampNeg x)
def stz (u : S1) (k : Nat) (i x : Int32) : S1 := up u k (upd (u k) i.toNatClampNeg (vp_nar .boolean x))
def cp (u : S1) (k : Nat) (v : S1) (j : Nat) (n : Int32) : S1 := up u k (va_cpy (v j) (u k) (0 : Int32).toNatClampNeg (0 : Int32).toNatClampNeg n.toNatClampNeg)
def upc (U : S2) (c : Nat) (u : S1) : S2 := fun j => cond (Nat.beq j c) u (U j)
theorem D_same {A : Nat → Prop} {w w' : va_W} (h : w.map (fun q => q.1) = w'.map (fun q => q.1)) (hD : va_D A w) : va_D A w' := by
  have key : ∀ (k : Nat) (q : Nat × va_E), w'[k]? = some q → ∃ q0, w[k]? = some q0 ∧ q0.1 = q.1 := by
    intro k q hk
    have h1 : (w'.map (fun q => q.1))[k]? = some q.1 := by rw [List.getElem?_map, hk]; rfl
    rw [← h, List.getElem?_map] at h1
    cases hw : w[k]? with
    | none => rw [hw] at h1; cases h1
    | some q0 => rw [hw] at h1; exact ⟨q0, rfl, Option.some.inj h1⟩
  refine ⟨fun i j x y hi hj hxy => ?_, fun k q hk => ?_⟩
  · obtain ⟨x0, h1, h2⟩ := key i x hi
    obtain ⟨y0, h3, h4⟩ := key j y hj
    exact hD.1 i j x0 y0 h1 h3 (h2.trans (hxy.trans h4.symm))
  · obtain ⟨q0, h1, h2⟩ := key k q hk
    rw [← h2]
    exact hD.2 k q0 h1
theorem P_kept {D : va_G} {cl : List vw_C} {ws : va_W} {H H1 : Heap} (h : va_P D cl ws H) (hk : ∀ q : Nat, q < H.size → H1[q]? = H[q]?) : va_P D cl ws H1 := h.kept (fun k q hq => hk q.1 (h k q hq).lt)
/-! worlds out of parts -/
theorem fl_mem {L : List va_W} {k : Nat} {c : va_W} (hk : L[k]? = some c) : ∀ x ∈ c, x ∈ L.flatten := fun x hx => List.mem_flatten.mpr ⟨c, List.mem_of_getElem? hk, hx⟩
theorem P_of {D : va_G} {cl : List vw_C} {w : va_W} {H : Heap} : va_P D cl w H ↔ ∀ x ∈ w, va_at D cl x H := ⟨fun h x hx => by obtain ⟨k, hk⟩ := List.getElem?_of_mem hx; exact h k x hk, fun h k q hk => h q (List.mem_of_getElem? hk)⟩
theorem fl_sub {D : va_G} {cl : List vw_C} {L : List va_W} {H : Heap} (h : va_P D cl L.flatten H) (k : Nat) {c : va_W} (hk : L[k]? = some c) : va_P D cl c H := P_of.mpr (fun x hx => P_of.mp h x (fl_mem hk x hx))
theorem D_app {A : Nat → Prop} {w1 w2 : va_W} (h : va_D A (w1 ++ w2)) : va_D A w1 ∧ va_D A w2 ∧ ∀ x ∈ w1, ∀ y ∈ w2, x.1 ≠ y.1 := by
  refine ⟨⟨fun i j p q hi hj hpq => ?_, fun k q hk => ?_⟩, ⟨fun i j p q hi hj hpq => ?_, fun k q hk => ?_⟩, fun x hx y hy hxy => ?_⟩
  · exact h.1 i j p q (by rw [List.getElem?_append_left (List.getElem?_eq_some_iff.mp hi).1]; exact hi) (by rw [List.getElem?_append_left (List.getElem?_eq_some_iff.mp hj).1]; exact hj) hpq
  · exact h.2 k q (by rw [List.getElem?_append_left (List.getElem?_eq_some_iff.mp hk).1]; exact hk)
  · have := h.1 (w1.length + i) (w1.length + j) p q (by rw [List.getElem?_append_right (by omega), Nat.add_sub_cancel_left]; exact hi) (by rw [List.getElem?_append_right (by omega), Nat.add_sub_cancel_left]; exact hj) hpq
    omega
  · exact h.2 (w1.length + k) q (by rw [List.getElem?_append_right (by omega), Nat.add_sub_cancel_left]; exact hk)
  · obtain ⟨i, hi⟩ := List.getElem?_of_mem hx
    obtain ⟨j, hj⟩ := List.getElem?_of_mem hy
    have hl := (List.getElem?_eq_some_iff.mp hi).1
    have := h.1 i (w1.length + j) x y (by rw [List.getElem?_append_left hl]; exact hi) (by rw [List.getElem?_append_right (by omega), Nat.add_sub_cancel_left]; exact hj) hxy
    omega
theorem fl_split {α : Type} : ∀ {L : List (List α)} {k : Nat} {c : List α}, L[k]? = some c → L.flatten = (L.take k).flatten ++ (c ++ (L.drop (k + 1)).flatten) ∧ ∀ c', (L.set k c').flatten = (L.take k).flatten ++ (c' ++ (L.drop (k + 1)).flatten)
  | [], k, c, h => by simp at h
  | d :: L, 0, c, h => by
    have : d = c := by simpa using h
    subst this
    exact ⟨rfl, fun c' => rfl⟩
  | d :: L, k + 1, c, h => by
    have h' : L[k]? = some c := by simpa using h
    obtain ⟨h1, h2⟩ := fl_split h'
    refine ⟨?_, fun c' => ?_⟩
    · show d ++ L.flatten = (d ++ (L.take k).flatten) ++ (c ++ (L.drop (k + 1)).flatten)
      rw [h1, List.append_assoc]
    · show d ++ (L.set k c').flatten = (d ++ (L.take k).flatten) ++ (c' ++ (L.drop (k + 1)).flatten)
      rw [h2, List.append_assoc]
theorem fl_subD {A : Nat → Prop} {L : List va_W} (h : va_D A L.flatten) (k : Nat) {c : va_W} (hk : L[k]? = some c) : va_D A c := by
  rw [(fl_split hk).1] at h
  exact (D_app (D_app h).2.1).1
theorem fl_free {A0 : Nat → Prop} {L : List va_W} {c : va_W} {H0 H : Heap} {locs : List Loc} (hD : va_D A0 L.flatten) (hS : va_S A0 H0 H locs) (hA : ∀ q, H0.size ≤ q → A0 q) (k : Nat) (hk : L[k]? = some c) : ∀ q, va_A c H.size q → A0 q := by
  intro q h
  rcases h with ⟨j, e, h⟩ | h
  · exact (fl_subD hD k hk).2 j (q, e) h
  · exact hA q (Nat.le_trans hS.1 h)
/-- behind a call that had the part k for itself: the whole again -/
theorem fl_join {A0 : Nat → Prop} {D : va_G} {cl : List vw_C} {L : List va_W} {c c' : va_W} {H H1 : Heap} (hP : va_P D cl L.flatten H) (hD : va_D A0 L.flatten) (k : Nat) (hk : L[k]? = some c) (hf : ∀ q : Nat, q < H.size → ¬ va_A c H.size q → H1[q]? = H[q]?) (hP1 : va_P D cl c' H1) : va_P D cl (L.set k c').flatten H1 := by
  obtain ⟨e1, e2⟩ := fl_split hk
  rw [e1] at hP hD
  rw [e2]
  have dD := D_app hD
  have dE := D_app dD.2.1
  have hx : ∀ x : Nat × va_E, (∀ y ∈ c, x.1 ≠ y.1) → va_at D cl x H → va_at D cl x H1 := fun x hne hx => hx.kept (hf x.1 hx.lt (fun h => by
    rcases h with ⟨j, e, h⟩ | h
    · exact hne (x.1, e) (List.mem_of_getElem? h) rfl
    · exact Nat.lt_irrefl _ (Nat.lt_of_lt_of_le hx.lt h)))
  refine P_of.mpr (fun x hm => ?_)
  have hP' := P_of.mp hP
  rcases List.mem_append.mp hm with h | h
  · exact hx x (fun y hy => dD.2.2 x h y (List.mem_append_left _ hy)) (hP' x (List.mem_append_left _ h))
  · rcases List.mem_append.mp h with h | h
    · exact P_of.mp hP1 x h
    · exact hx x (fun y hy z => dE.2.2 y hy x h z.symm) (hP' x (List.mem_append_right _ (List.mem_append_right _ h)))
/-! what is given of the tables -/
abbrev tys (cI cZ cJ cT : ClassId) : List (ClassId × FieldType) := [(cI, .int), (cZ, .boolean), (cJ, .long), (cT, .object "Inodery$Tree")]
def PR (D : va_G) (cls : List vw_C) (ty : List (ClassId × FieldType)) (w : va_W) : State → Prop := fun U => va_P D cls w U.heap ∧ va_K D cls ty U
def PW (D : va_G) (cls : List vw_C) (ty : List (ClassId × FieldType)) (w : va_W) (sz : Nat) : State → Prop := fun U => U.heap.size = sz ∧ va_P D cls w U.heap ∧ va_K D cls ty U ∧ va_D (fun _ => True) w
theorem blR {av : List Value} {D : va_G} {cls : List vw_C} {ty : List (ClassId × FieldType)} {w : va_W} : FrameBlind (va_Pc av (PR D cls ty w)) := fun a U g mk h => ⟨h.1, h.2.1, va_K.moved (u := U) (U := U.calling g mk a) (Vm.Alike.refl U.vm) h.2.2⟩
theorem blW {av : List Value} {D : va_G} {cls : List vw_C} {ty : List (ClassId × FieldType)} {w : va_W} {sz : Nat} : FrameBlind (va_Pc av (PW D cls ty w sz)) := fun a U g mk h => ⟨h.1, h.2.1, h.2.2.1, va_K.moved (u := U) (U := U.calling g mk a) (Vm.Alike.refl U.vm) h.2.2.2.1, h.2.2.2.2⟩
theorem bl0 {av : List Value} : FrameBlind (va_Pc av (fun _ => True)) := fun _ _ _ _ h => h
def QR (r : Int32) : Array Value → State → Outcome → State → Prop := vp_Si (fun x => x = r)
def QWi (D : va_G) (cls : List vw_C) (r : Int32) (w : va_W) (A : Nat → Prop) : Array Value → State → Outcome → State → Prop := va_Qi (fun x (_ : Unit) => x = r) (fun _ t => va_P D cls w t.heap) A
def QWv (D : va_G) (cls : List vw_C) (w : va_W) (A : Nat → Prop) : Array Value → State → Outcome → State → Prop := va_Qv (fun (_ : Unit) => True) (fun _ t => va_P D cls w t.heap) A
section MyRows
variable {p : Program} {l : Launch} {e : Env} {R : Room} {s : State} {m : MethodId} {args : Array Value} {below : List Frame} {meth : Method} {c : Code} {H : Heap} {locs : List Loc} {cells slots : Nat} {Q : State → Prop}
variable {y : MethodName} {bytes cc : ByteArray} {maxL nL mc ms n index pc : Nat} {ret : Option FieldType} {ws : List Cond} {rm : Room} {Ts : List Cond} {own C : String} {b : Addr} {st0 rest : List Value} {ls : Array Slot} {D : va_G} {cls : List vw_C} {ty : List (ClassId × FieldType)} {wc wc' : va_W} {r : Int32} {A : Nat → Prop} {H0 : Heap}
theorem Wq {g : JFrame} {Q0 : State → Prop} (k : ∀ Q, Q = Q0 → W p l e R s m args below meth c H locs cells slots Q g) : W p l e R s m args below meth c H locs cells slots Q0 g := k Q0 rfl
theorem W_entry {vs : List Value} {n : Nat} (hav : args = vs.toArray) (hn : (lg_sl vs).length ≤ n) (k : ∀ ls, lv_has ls n (lv_args 0 vs) → W p l e R s m args below meth c H locs cells slots Q (F0 m 0 ls [])) : W p l e R s m args below meth c H locs cells slots Q (entryFrame m args n) := by
  have h : entryFrame m args n = entryFrame m vs.toArray n := by rw [hav]
  rw [h, lg_entry_eq]
  exact k _ (lv_entry vs hn)
/-- a boolean is handed back as its lowest bit -/
theorem zretN {Qc : Array Value → State → Outcome → State → Prop} {free : Addr → Prop} {v v' : Int32} {ty : FieldType} (hexec : p.tables.exec = Jvm.exec) (hb : c.code = cc) (hr : meth.sig.returnType = some ty) (hn : narrow ty (.int v) = .int v')
    (hq : ∀ t : State, t.heap = H → s.WarmedH t.vm → Qc args s (.returned (some (.int v'))) t) (hf : ∀ q ∈ locs, free q.base)
    {pc : Nat} {ls : Array Slot} (hdg : decode cc pc = .ok (.ireturn, 1)) (hlocks : meth.locks = false) : W p l e R s m args below meth c H locs cells slots (MQ below Qc args s cells slots free) (F0 m pc ls [.int v]) := by
  intro T hT X
  obtain ⟨fs, hret, hrun, hended, hW, hframe⟩ := X.leave (v := some (.int v')) (hlocks := hlocks) (fun h => by rw [hr] at h; cases h)
  have hmeth' : T.vm.method? m = some meth := X.method'
  refine ⟨T.setFrames fs, ?_, .returned (some (.int v')), hrun, hended, hq _ hT hW, locs, ⟨⟨_, rfl⟩, hW, hframe⟩, hf⟩
  jvm_step X.here [X.here.top, hexec, hb, hdg, hmeth', hr, hn]
  (try refine ⟨rfl, ?_⟩); (try refine ⟨rfl, ?_⟩)
  first | (intro acts; rw [hret _ acts rfl rfl rfl]) | rw [hret _ _ rfl rfl rfl]
  exact Steps.refl _
variable {As : List Value}
/-- a virtual call that only reads -/
theorem cRV (S : CallFix p m c cc nL s args Ts own) (hM : Met l y ws rm (va_Pc (.ref b :: As) (PR D cls ty wc)) (QR r) 0 0 (fun _ => False)) (cw : CallW R s args own C index y bytes maxL ret ws rm 0 0 n)
    (hP : va_P D cls wc H) (hK : va_K D cls ty s) (hrec : ∃ cell : Cell, H[b]? = some cell ∧ cell.vm.isStatics = false ∧ s.vm.findClass C = some cell.cls)
    (hst : st0 = As.reverse ++ .ref b :: rest) (hn : As.length = n) (hsize : ls.size = nL) (hW : (rest.map fun v => v.category).sum ≤ 8) (hdg : decode cc pc = .ok (.invokevirtual index, 3)) (hf : cells ≤ R.cells ∧ slots ≤ R.slots)
    (kk : W p l e R s m args below meth c H locs cells slots Q (F0 m (pc + 3) ls (.int r :: rest))) : W p l e R s m args below meth c H locs cells slots Q (F0 m pc ls st0) :=
  vp_callSi (va_Run.run (va_runV (As := As) (rest := rest) S hM cw ⟨blR, hrec, fun U hU hW => ⟨rfl, by rw [hU]; exact hP, va_K.moved hW.alike hK⟩⟩ rfl hn hsize hst (lv_room hW) hdg hf)) (fun z hz => by rw [hz]; exact kk)
/-- a static call that only reads -/
theorem cRS (S : CallFix p m c cc nL s args Ts own) (hM : Met l y ws rm (va_Pc As (PR D cls ty wc)) (QR r) 0 0 (fun _ => False)) (cw : CallB R s args own index y bytes maxL ret ws rm 0 0 n ∧ (Cond.static y).before args s = true)
    (hP : va_P D cls wc H) (hK : va_K D cls ty s)
    (hst : st0 = As.reverse ++ rest) (hn : As.length = n) (hsize : ls.size = nL) (hW : (rest.map fun v => v.category).sum ≤ 8) (hdg : decode cc pc = .ok (.invokestatic index, 3)) (hf : cells ≤ R.cells ∧ slots ≤ R.slots)
    (kk : W p l e R s m args below meth c H locs cells slots Q (F0 m (pc + 3) ls (.int r :: rest))) : W p l e R s m args below meth c H locs cells slots Q (F0 m pc ls st0) :=
  vp_callSi (va_Run.run (va_runS (As := As) (rest := rest) S hM cw ⟨blR, fun U hU hW => ⟨rfl, by rw [hU]; exact hP, va_K.moved hW.alike hK⟩⟩ rfl hn hsize hst (lv_room hW) hdg hf)) (fun z hz => by rw [hz]; exact kk)
/-- a static call that asks nothing of the heap -/
theorem c0S (S : CallFix p m c cc nL s args Ts own) (hM : Met l y ws rm (va_Pc As (fun _ => True)) (QR r) 0 0 (fun _ => False)) (cw : CallB R s args own index y bytes maxL ret ws rm 0 0 n ∧ (Cond.static y).before args s = true)
    (hst : st0 = As.reverse ++ rest) (hn : As.length = n) (hsize : ls.size = nL) (hW : (rest.map fun v => v.category).sum ≤ 8) (hdg : decode cc pc = .ok (.invokestatic index, 3)) (hf : cells ≤ R.cells ∧ slots ≤ R.slots)
    (kk : W p l e R s m args below meth c H locs cells slots Q (F0 m (pc + 3) ls (.int r :: rest))) : W p l e R s m args below meth c H locs cells slots Q (F0 m pc ls st0) :=
  vp_callSi (va_Run.run (va_runS (As := As) (rest := rest) S hM cw ⟨bl0, fun _ _ _ => ⟨rfl, trivial⟩⟩ rfl hn hsize hst (lv_room hW) hdg hf)) (fun z hz => by rw [hz]; exact kk)
/-- a virtual call that writes in its own world, and answers a number -/
theorem cWVi (S : CallFix p m c cc nL s args Ts own) (hM : Met l y ws rm (va_Pc (.ref b :: As) (PW D cls ty wc H.size)) (QWi D cls r wc' (va_A wc H.size)) mc ms (va_A wc H.size)) (cw : CallW R s args own C index y bytes maxL ret ws rm mc ms n)
    (hP : va_P D cls wc H) (hK : va_K D cls ty s) (hD : va_D A wc) (hS : va_S A H0 H locs) (hF : ∀ q, va_A wc H.size q → A q) (hrec : ∃ cell : Cell, H[b]? = some cell ∧ cell.vm.isStatics = false ∧ s.vm.findClass C = some cell.cls)
    (hst : st0 = As.reverse ++ .ref b :: rest) (hn : As.length = n) (hsize : ls.size = nL) (hW : (rest.map fun v => v.category).sum ≤ 8) (hdg : decode cc pc = .ok (.invokevirtual index, 3)) (hf : cells + mc ≤ R.cells ∧ slots + ms ≤ R.slots)
    (kk : ∀ (H1 : Heap) (locs1 : List Loc), va_P D cls wc' H1 → (∀ q : Nat, q < H.size → ¬ va_A wc H.size q → H1[q]? = H[q]?) → va_S A H0 H1 locs1 → W p l e R s m args below meth c H1 locs1 (cells + mc) (slots + ms) Q (F0 m (pc + 3) ls (.int r :: rest))) : W p l e R s m args below meth c H locs cells slots Q (F0 m pc ls st0) :=
  va_calli (va_runV (As := As) (rest := rest) S hM cw ⟨blW, hrec, fun U hU hW => ⟨rfl, by rw [hU], by rw [hU]; exact hP, va_K.moved hW.alike hK, hD.weaken (fun _ _ _ _ => trivial)⟩⟩ rfl hn hsize hst (lv_room hW) hdg hf) hS (fun q _ h => hF q h) hF
    (fun z u t H1 locs1 ht _ hz hB _ hk hS1 => by rw [hz]; exact kk H1 locs1 (by rw [ht] at hB; exact hB) hk hS1)
/-- .. and answers nothing -/
theorem cWVv (S : CallFix p m c cc nL s args Ts own) (hM : Met l y ws rm (va_Pc (.ref b :: As) (PW D cls ty wc H.size)) (QWv D cls wc' (va_A wc H.size)) mc ms (va_A wc H.size)) (cw : CallW R s args own C index y bytes maxL ret ws rm mc ms n)
    (hP : va_P D cls wc H) (hK : va_K D cls ty s) (hD : va_D A wc) (hS : va_S A H0 H locs) (hF : ∀ q, va_A wc H.size q → A q) (hrec : ∃ cell : Cell, H[b]? = some cell ∧ cell.vm.isStatics = false ∧ s.vm.findClass C = some cell.cls)
    (hst : st0 = As.reverse ++ .ref b :: rest) (hn : As.length = n) (hsize : ls.size = nL) (hW : (rest.map fun v => v.category).sum ≤ 8) (hdg : decode cc pc = .ok (.invokevirtual index, 3)) (hf : cells + mc ≤ R.cells ∧ slots + ms ≤ R.slots)
    (kk : ∀ (H1 : Heap) (locs1 : List Loc), va_P D cls wc' H1 → (∀ q : Nat, q < H.size → ¬ va_A wc H.size q → H1[q]? = H[q]?) → va_S A H0 H1 locs1 → W p l e R s m args below meth c H1 locs1 (cells + mc) (slots + ms) Q (F0 m (pc + 3) ls rest)) : W p l e R s m args below meth c H locs cells slots Q (F0 m pc ls st0) :=
  va_callv (va_runV (As := As) (rest := rest) S hM cw ⟨blW, hrec, fun U hU hW => ⟨rfl, by rw [hU], by rw [hU]; exact hP, va_K.moved hW.alike hK, hD.weaken (fun _ _ _ _ => trivial)⟩⟩ rfl hn hsize hst (lv_room hW) hdg hf) hS (fun q _ h => hF q h) hF
    (fun u t H1 locs1 ht _ _ hB _ hk hS1 => kk H1 locs1 (by rw [ht] at hB; exact hB) hk hS1)
theorem own_free {wc : va_W} (hD : va_D A wc) (hS : va_S A H0 H locs) (hA : ∀ q, H0.size ≤ q → A q) : ∀ q, va_A wc H.size q → A q := by
  intro q h
  rcases h with ⟨j, e, h⟩ | h
  · exact hD.2 j (q, e) h
  · exact hA q (Nat.le_trans hS.1 h)
end MyRows
theorem D_chunks {A : Nat → Prop} {L : List va_W} (h : va_D A L.flatten) {i j : Nat} {c d : va_W} (hi : L[i]? = some c) (hj : L[j]? = some d) (hij : i ≠ j) : ∀ x ∈ c, ∀ y ∈ d, x.1 ≠ y.1 := by
  intro x hx y hy
  rw [(fl_split hi).1] at h
  have h1 := D_app h
  have h2 := D_app h1.2.1
  rcases Nat.lt_or_gt_of_ne hij with hlt | hgt
  · refine h2.2.2 x hx y (List.mem_flatten.mpr ⟨d, ?_, hy⟩)
    have : (L.drop (i + 1))[j - (i + 1)]? = some d := by rw [List.getElem?_drop]; rw [show i + 1 + (j - (i + 1)) = j by omega]; exact hj
    exact List.mem_of_getElem? this
  · refine fun z => h1.2.2 y (List.mem_flatten.mpr ⟨d, ?_, hy⟩) x (List.mem_append_left _ hx) z.symm
    have : (L.take i)[j]? = some d := by rw [List.getElem?_take_of_lt hgt]; exact hj
    exact List.mem_of_getElem? this
theorem M_at {L cs : List va_W} : ∀ {ks : List Nat}, ks.map (fun k => L[k]?) = cs.map some → ∀ c ∈ cs, ∃ k ∈ ks, L[k]? = some c := by
  intro ks h c hc
  have : some c ∈ ks.map (fun k => L[k]?) := by rw [h]; exact List.mem_map.mpr ⟨c, hc, rfl⟩
  exact List.mem_map.mp this
theorem fl_subM {D : va_G} {cl : List vw_C} {L : List va_W} {H : Heap} (h : va_P D cl L.flatten H) (ks : List Nat) {cs : List va_W} (hk : ks.map (fun k => L[k]?) = cs.map some) : va_P D cl cs.flatten H := P_of.mpr (fun x hx => by
  obtain ⟨c, hc, hxc⟩ := List.mem_flatten.mp hx
  obtain ⟨k, -, h1⟩ := M_at hk c hc
  exact P_of.mp h x (fl_mem h1 x hxc))
theorem fl_subDM {A : Nat → Prop} {L : List va_W} (h : va_D A L.flatten) : ∀ (ks : List Nat) {cs : List va_W}, va_nd ks = true → ks.map (fun k => L[k]?) = cs.map some → va_D A cs.flatten
  | [], cs, _, hk => by
    cases cs with
    | nil => exact ⟨fun i j p q hi => by simp at hi, fun k q hq => by simp at hq⟩
    | cons c cs => cases hk
  | k :: ks, cs, hn, hk => by
    cases cs with
    | nil => cases hk
    | cons c cs =>
      have h1 : L[k]? = some c := (List.cons.inj hk).1
      have h2 : ks.map (fun k => L[k]?) = cs.map some := (List.cons.inj hk).2
      simp only [va_nd, Bool.and_eq_true, decide_eq_true_eq] at hn
      refine va_D.app (fl_subD h k h1) (fl_subDM h ks hn.2 h2) (fun i j x y hx hy => ?_)
      obtain ⟨d, hd, hyd⟩ := List.mem_flatten.mp (List.mem_of_getElem? hy)
      obtain ⟨k2, hk2, h3⟩ := M_at h2 d hd
      exact D_chunks h h1 h3 (fun z => hn.1 (z ▸ hk2)) x (List.mem_of_getElem? hx) y hyd
def setAll : List va_W → List Nat → List va_W → List va_W
  | L, k :: ks, c :: cs => setAll (L.set k c) ks cs
  | L, _, _ => L
theorem setAll_at : ∀ (ks : List Nat) (cs : List va_W) (L : List va_W) (k : Nat) (c : va_W), ks.length = cs.length → (setAll L ks cs)[k]? = some c → c ∈ cs ∨ (k ∉ ks ∧ L[k]? = some c)
  | [], [], L, k, c, _, h => Or.inr ⟨List.not_mem_nil, h⟩
  | [], c :: cs, L, k, c2, hl, h => by cases hl
  | k :: ks, [], L, k2, c2, hl, h => by cases hl
  | i :: ks, d :: cs, L, k, c, hl, h => by
    rcases setAll_at ks cs (L.set i d) k c (Nat.succ.inj hl) h with h1 | ⟨h1, h2⟩
    · exact Or.inl (List.mem_cons_of_mem _ h1)
    · by_cases hki : k = i
      · subst hki
        rcases Nat.lt_or_ge k L.length with hlt | hge
        · rw [List.getElem?_set_self hlt] at h2
          exact Or.inl (by rw [← Option.some.inj h2]; exact List.mem_cons_self)
        · rw [List.getElem?_eq_none (by rw [List.length_set]; exact hge)] at h2
          cases h2
      · rw [List.getElem?_set_ne (Ne.symm hki)] at h2
        exact Or.inr ⟨fun z => (List.mem_cons.mp z).elim hki h1, h2⟩
/-- behind a call that had several parts for itself -/
theorem fl_joinM {A0 : Nat → Prop} {D : va_G} {cl : List vw_C} {L cs cs' : List va_W} {H H1 : Heap} (hP : va_P D cl L.flatten H) (hD : va_D A0 L.flatten) (ks : List Nat) (hk : ks.map (fun k => L[k]?) = cs.map some) (hl : ks.length = cs'.length) (hf : ∀ q : Nat, q < H.size → ¬ va_A cs.flatten H.size q → H1[q]? = H[q]?) (hP1 : va_P D cl cs'.flatten H1) : va_P D cl (setAll L ks cs').flatten H1 := by
  refine P_of.mpr (fun x hx => ?_)
  obtain ⟨c, hc, hxc⟩ := List.mem_flatten.mp hx
  obtain ⟨k, hkc⟩ := List.getElem?_of_mem hc
  rcases setAll_at ks cs' L k c hl hkc with h1 | ⟨h1, h2⟩
  · exact P_of.mp hP1 x (List.mem_flatten.mpr ⟨c, h1, hxc⟩)
  · have hx0 := P_of.mp hP x (fl_mem h2 x hxc)
    refine hx0.kept (hf x.1 hx0.lt (fun h => ?_))
    rcases h with ⟨j, e, h⟩ | h
    · obtain ⟨d, hd, hyd⟩ := List.mem_flatten.mp (List.mem_of_getElem? h)
      obtain ⟨k2, hk2, h3⟩ := M_at hk d hd
      exact D_chunks hD h2 h3 (fun z => h1 (z ▸ hk2)) x hxc (x.1, e) hyd rfl
    · exact Nat.lt_irrefl _ (Nat.lt_of_lt_of_le hx0.lt h)
theorem P_at {D : va_G} {cls : List vw_C} {w : va_W} {H : Heap} {t : State} (ht : t.heap = H) (hP : va_P D cls w H) : va_P D cls w t.heap := by rw [ht]; exact hP
theorem W_heap {p : Program} {l : Launch} {e : Env} {R : Room} {s : State} {m : MethodId} {args : Array Value} {below : List Frame} {meth : Method} {c : Code} {cells slots : Nat} {Q : State → Prop} {g : JFrame} {D : va_G} {cls : List vw_C} {w : va_W} {A : Nat → Prop} {H1 : Heap} {L1 : List Loc} (hP : va_P D cls w H1) (hS : va_S A s.heap H1 L1)
    (k : ∀ (H : Heap) (locs : List Loc), va_P D cls w H → va_S A s.heap H locs → W p l e R s m args below meth c H locs cells slots Q g) : W p l e R s m args below meth c H1 L1 cells slots Q g := k H1 L1 hP hS
def ql1 {A1 B : Type} (F : (A1 → Option B) → A1 → Option B) : Nat → A1 → Option B
  | 0 => fun _ => none
  | n + 1 => F (ql1 F n)
theorem ql1_z {A1 B : Type} {F : (A1 → Option B) → A1 → Option B} {x1 : A1} {r : B} (h : ql1 F 0 x1 = some r) : False := nomatch (show none = some r from h)
theorem ql1_s {A1 B : Type} {F G : (A1 → Option B) → A1 → Option B} (hF : F = G) {n : Nat} {x1 : A1} {r : B} (h : ql1 F (n + 1) x1 = some r) : G (ql1 F n) x1 = some r := by subst hF; exact h
def qj1 {A1 B C : Type} (F : (A1 → Option B) → A1 → Option B) (f : (A1 → Option B) → Option C) : Option C := f (ql1 F 4096)
theorem qj1_some {A1 B C : Type} {F : (A1 → Option B) → A1 → Option B} {f : (A1 → Option B) → Option C} {r : C} (h : qj1 F f = some r) : ∃ G, G = F ∧ f (ql1 G 4096) = some r := ⟨F, rfl, h⟩
theorem qa1 {A1 B : Type} {f g : A1 → Option B} (hf : f = g) {x1 : A1} {r : B} (h : f x1 = some r) : g x1 = some r := by subst hf; exact h
def ql2 {A1 A2 B : Type} (F : (A1 → A2 → Option B) → A1 → A2 → Option B) : Nat → A1 → A2 → Option B
  | 0 => fun _ _ => none
  | n + 1 => F (ql2 F n)
theorem ql2_z {A1 A2 B : Type} {F : (A1 → A2 → Option B) → A1 → A2 → Option B} {x1 : A1} {x2 : A2} {r : B} (h : ql2 F 0 x1 x2 = some r) : False := nomatch (show none = some r from h)
theorem ql2_s {A1 A2 B : Type} {F G : (A1 → A2 → Option B) → A1 → A2 → Option B} (hF : F = G) {n : Nat} {x1 : A1} {x2 : A2} {r : B} (h : ql2 F (n + 1) x1 x2 = some r) : G (ql2 F n) x1 x2 = some r := by subst hF; exact h
def qj2 {A1 A2 B C : Type} (F : (A1 → A2 → Option B) → A1 → A2 → Option B) (f : (A1 → A2 → Option B) → Option C) : Option C := f (ql2 F 4096)
theorem qj2_some {A1 A2 B C : Type} {F : (A1 → A2 → Option B) → A1 → A2 → Option B} {f : (A1 → A2 → Option B) → Option C} {r : C} (h : qj2 F f = some r) : ∃ G, G = F ∧ f (ql2 G 4096) = some r := ⟨F, rfl, h⟩
theorem qa2 {A1 A2 B : Type} {f g : A1 → A2 → Option B} (hf : f = g) {x1 : A1} {x2 : A2} {r : B} (h : f x1 x2 = some r) : g x1 x2 = some r := by subst hf; exact h
def ql3 {A1 A2 A3 B : Type} (F : (A1 → A2 → A3 → Option B) → A1 → A2 → A3 → Option B) : Nat → A1 → A2 → A3 → Option B
  | 0 => fun _ _ _ => none
  | n + 1 => F (ql3 F n)
theorem ql3_z {A1 A2 A3 B : Type} {F : (A1 → A2 → A3 → Option B) → A1 → A2 → A3 → Option B} {x1 : A1} {x2 : A2} {x3 : A3} {r : B} (h : ql3 F 0 x1 x2 x3 = some r) : False := nomatch (show none = some r from h)
theorem ql3_s {A1 A2 A3 B : Type} {F G : (A1 → A2 → A3 → Option B) → A1 → A2 → A3 → Option B} (hF : F = G) {n : Nat} {x1 : A1} {x2 : A2} {x3 : A3} {r : B} (h : ql3 F (n + 1) x1 x2 x3 = some r) : G (ql3 F n) x1 x2 x3 = some r := by subst hF; exact h
def qj3 {A1 A2 A3 B C : Type} (F : (A1 → A2 → A3 → Option B) → A1 → A2 → A3 → Option B) (f : (A1 → A2 → A3 → Option B) → Option C) : Option C := f (ql3 F 4096)
theorem qj3_some {A1 A2 A3 B C : Type} {F : (A1 → A2 → A3 → Option B) → A1 → A2 → A3 → Option B} {f : (A1 → A2 → A3 → Option B) → Option C} {r : C} (h : qj3 F f = some r) : ∃ G, G = F ∧ f (ql3 G 4096) = some r := ⟨F, rfl, h⟩
theorem qa3 {A1 A2 A3 B : Type} {f g : A1 → A2 → A3 → Option B} (hf : f = g) {x1 : A1} {x2 : A2} {x3 : A3} {r : B} (h : f x1 x2 x3 = some r) : g x1 x2 x3 = some r := by subst hf; exact h
def ql4 {A1 A2 A3 A4 B : Type} (F : (A1 → A2 → A3 → A4 → Option B) → A1 → A2 → A3 → A4 → Option B) : Nat → A1 → A2 → A3 → A4 → Option B
  | 0 => fun _ _ _ _ => none
  | n + 1 => F (ql4 F n)
theorem ql4_z {A1 A2 A3 A4 B : Type} {F : (A1 → A2 → A3 → A4 → Option B) → A1 → A2 → A3 → A4 → Option B} {x1 : A1} {x2 : A2} {x3 : A3} {x4 : A4} {r : B} (h : ql4 F 0 x1 x2 x3 x4 = some r) : False := nomatch (show none = some r from h)
theorem ql4_s {A1 A2 A3 A4 B : Type} {F G : (A1 → A2 → A3 → A4 → Option B) → A1 → A2 → A3 → A4 → Option B} (hF : F = G) {n : Nat} {x1 : A1} {x2 : A2} {x3 : A3} {x4 : A4} {r : B} (h : ql4 F (n + 1) x1 x2 x3 x4 = some r) : G (ql4 F n) x1 x2 x3 x4 = some r := by subst hF; exact h
def qj4 {A1 A2 A3 A4 B C : Type} (F : (A1 → A2 → A3 → A4 → Option B) → A1 → A2 → A3 → A4 → Option B) (f : (A1 → A2 → A3 → A4 → Option B) → Option C) : Option C := f (ql4 F 4096)
theorem qj4_some {A1 A2 A3 A4 B C : Type} {F : (A1 → A2 → A3 → A4 → Option B) → A1 → A2 → A3 → A4 → Option B} {f : (A1 → A2 → A3 → A4 → Option B) → Option C} {r : C} (h : qj4 F f = some r) : ∃ G, G = F ∧ f (ql4 G 4096) = some r := ⟨F, rfl, h⟩
theorem qa4 {A1 A2 A3 A4 B : Type} {f g : A1 → A2 → A3 → A4 → Option B} (hf : f = g) {x1 : A1} {x2 : A2} {x3 : A3} {x4 : A4} {r : B} (h : f x1 x2 x3 x4 = some r) : g x1 x2 x3 x4 = some r := by subst hf; exact h
def ql5 {A1 A2 A3 A4 A5 B : Type} (F : (A1 → A2 → A3 → A4 → A5 → Option B) → A1 → A2 → A3 → A4 → A5 → Option B) : Nat → A1 → A2 → A3 → A4 → A5 → Option B
  | 0 => fun _ _ _ _ _ => none
  | n + 1 => F (ql5 F n)
theorem ql5_z {A1 A2 A3 A4 A5 B : Type} {F : (A1 → A2 → A3 → A4 → A5 → Option B) → A1 → A2 → A3 → A4 → A5 → Option B} {x1 : A1} {x2 : A2} {x3 : A3} {x4 : A4} {x5 : A5} {r : B} (h : ql5 F 0 x1 x2 x3 x4 x5 = some r) : False := nomatch (show none = some r from h)
theorem ql5_s {A1 A2 A3 A4 A5 B : Type} {F G : (A1 → A2 → A3 → A4 → A5 → Option B) → A1 → A2 → A3 → A4 → A5 → Option B} (hF : F = G) {n : Nat} {x1 : A1} {x2 : A2} {x3 : A3} {x4 : A4} {x5 : A5} {r : B} (h : ql5 F (n + 1) x1 x2 x3 x4 x5 = some r) : G (ql5 F n) x1 x2 x3 x4 x5 = some r := by subst hF; exact h
def qj5 {A1 A2 A3 A4 A5 B C : Type} (F : (A1 → A2 → A3 → A4 → A5 → Option B) → A1 → A2 → A3 → A4 → A5 → Option B) (f : (A1 → A2 → A3 → A4 → A5 → Option B) → Option C) : Option C := f (ql5 F 4096)
theorem qj5_some {A1 A2 A3 A4 A5 B C : Type} {F : (A1 → A2 → A3 → A4 → A5 → Option B) → A1 → A2 → A3 → A4 → A5 → Option B} {f : (A1 → A2 → A3 → A4 → A5 → Option B) → Option C} {r : C} (h : qj5 F f = some r) : ∃ G, G = F ∧ f (ql5 G 4096) = some r := ⟨F, rfl, h⟩
theorem qa5 {A1 A2 A3 A4 A5 B : Type} {f g : A1 → A2 → A3 → A4 → A5 → Option B} (hf : f = g) {x1 : A1} {x2 : A2} {x3 : A3} {x4 : A4} {x5 : A5} {r : B} (h : f x1 x2 x3 x4 x5 = some r) : g x1 x2 x3 x4 x5 = some r := by subst hf; exact h
def ql6 {A1 A2 A3 A4 A5 A6 B : Type} (F : (A1 → A2 → A3 → A4 → A5 → A6 → Option B) → A1 → A2 → A3 → A4 → A5 → A6 → Option B) : Nat → A1 → A2 → A3 → A4 → A5 → A6 → Option B
  | 0 => fun _ _ _ _ _ _ => none
  | n + 1 => F (ql6 F n)
theorem ql6_z {A1 A2 A3 A4 A5 A6 B : Type} {F : (A1 → A2 → A3 → A4 → A5 → A6 → Option B) → A1 → A2 → A3 → A4 → A5 → A6 → Option B} {x1 : A1} {x2 : A2} {x3 : A3} {x4 : A4} {x5 : A5} {x6 : A6} {r : B} (h : ql6 F 0 x1 x2 x3 x4 x5 x6 = some r) : False := nomatch (show none = some r from h)
theorem ql6_s {A1 A2 A3 A4 A5 A6 B : Type} {F G : (A1 → A2 → A3 → A4 → A5 → A6 → Option B) → A1 → A2 → A3 → A4 → A5 → A6 → Option B} (hF : F = G) {n : Nat} {x1 : A1} {x2 : A2} {x3 : A3} {x4 : A4} {x5 : A5} {x6 : A6} {r : B} (h : ql6 F (n + 1) x1 x2 x3 x4 x5 x6 = some r) : G (ql6 F n) x1 x2 x3 x4 x5 x6 = some r := by subst hF; exact h
def qj6 {A1 A2 A3 A4 A5 A6 B C : Type} (F : (A1 → A2 → A3 → A4 → A5 → A6 → Option B) → A1 → A2 → A3 → A4 → A5 → A6 → Option B) (f : (A1 → A2 → A3 → A4 → A5 → A6 → Option B) → Option C) : Option C := f (ql6 F 4096)
theorem qj6_some {A1 A2 A3 A4 A5 A6 B C : Type} {F : (A1 → A2 → A3 → A4 → A5 → A6 → Option B) → A1 → A2 → A3 → A4 → A5 → A6 → Option B} {f : (A1 → A2 → A3 → A4 → A5 → A6 → Option B) → Option C} {r : C} (h : qj6 F f = some r) : ∃ G, G = F ∧ f (ql6 G 4096) = some r := ⟨F, rfl, h⟩
theorem qa6 {A1 A2 A3 A4 A5 A6 B : Type} {f g : A1 → A2 → A3 → A4 → A5 → A6 → Option B} (hf : f = g) {x1 : A1} {x2 : A2} {x3 : A3} {x4 : A4} {x5 : A5} {x6 : A6} {r : B} (h : f x1 x2 x3 x4 x5 x6 = some r) : g x1 x2 x3 x4 x5 x6 = some r := by subst hf; exact h
def ql7 {A1 A2 A3 A4 A5 A6 A7 B : Type} (F : (A1 → A2 → A3 → A4 → A5 → A6 → A7 → Option B) → A1 → A2 → A3 → A4 → A5 → A6 → A7 → Option B) : Nat → A1 → A2 → A3 → A4 → A5 → A6 → A7 → Option B
  | 0 => fun _ _ _ _ _ _ _ => none
  | n + 1 => F (ql7 F n)
theorem ql7_z {A1 A2 A3 A4 A5 A6 A7 B : Type} {F : (A1 → A2 → A3 → A4 → A5 → A6 → A7 → Option B) → A1 → A2 → A3 → A4 → A5 → A6 → A7 → Option B} {x1 : A1} {x2 : A2} {x3 : A3} {x4 : A4} {x5 : A5} {x6 : A6} {x7 : A7} {r : B} (h : ql7 F 0 x1 x2 x3 x4 x5 x6 x7 = some r) : False := nomatch (show none = some r from h)
theorem ql7_s {A1 A2 A3 A4 A5 A6 A7 B : Type} {F G : (A1 → A2 → A3 → A4 → A5 → A6 → A7 → Option B) → A1 → A2 → A3 → A4 → A5 → A6 → A7 → Option B} (hF : F = G) {n : Nat} {x1 : A1} {x2 : A2} {x3 : A3} {x4 : A4} {x5 : A5} {x6 : A6} {x7 : A7} {r : B} (h : ql7 F (n + 1) x1 x2 x3 x4 x5 x6 x7 = some r) : G (ql7 F n) x1 x2 x3 x4 x5 x6 x7 = some r := by subst hF; exact h
def qj7 {A1 A2 A3 A4 A5 A6 A7 B C : Type} (F : (A1 → A2 → A3 → A4 → A5 → A6 → A7 → Option B) → A1 → A2 → A3 → A4 → A5 → A6 → A7 → Option B) (f : (A1 → A2 → A3 → A4 → A5 → A6 → A7 → Option B) → Option C) : Option C := f (ql7 F 4096)
theorem qj7_some {A1 A2 A3 A4 A5 A6 A7 B C : Type} {F : (A1 → A2 → A3 → A4 → A5 → A6 → A7 → Option B) → A1 → A2 → A3 → A4 → A5 → A6 → A7 → Option B} {f : (A1 → A2 → A3 → A4 → A5 → A6 → A7 → Option B) → Option C} {r : C} (h : qj7 F f = some r) : ∃ G, G = F ∧ f (ql7 G 4096) = some r := ⟨F, rfl, h⟩
theorem qa7 {A1 A2 A3 A4 A5 A6 A7 B : Type} {f g : A1 → A2 → A3 → A4 → A5 → A6 → A7 → Option B} (hf : f = g) {x1 : A1} {x2 : A2} {x3 : A3} {x4 : A4} {x5 : A5} {x6 : A6} {x7 : A7} {r : B} (h : f x1 x2 x3 x4 x5 x6 x7 = some r) : g x1 x2 x3 x4 x5 x6 x7 = some r := by subst hf; exact h
def ql8 {A1 A2 A3 A4 A5 A6 A7 A8 B : Type} (F : (A1 → A2 → A3 → A4 → A5 → A6 → A7 → A8 → Option B) → A1 → A2 → A3 → A4 → A5 → A6 → A7 → A8 → Option B) : Nat → A1 → A2 → A3 → A4 → A5 → A6 → A7 → A8 → Option B
  | 0 => fun _ _ _ _ _ _ _ _ => none
  | n + 1 => F (ql8 F n)
theorem ql8_z {A1 A2 A3 A4 A5 A6 A7 A8 B : Type} {F : (A1 → A2 → A3 → A4 → A5 → A6 → A7 → A8 → Option B) → A1 → A2 → A3 → A4 → A5 → A6 → A7 → A8 → Option B} {x1 : A1} {x2 : A2} {x3 : A3} {x4 : A4} {x5 : A5} {x6 : A6} {x7 : A7} {x8 : A8} {r : B} (h : ql8 F 0 x1 x2 x3 x4 x5 x6 x7 x8 = some r) : False := nomatch (show none = some r from h)
theorem ql8_s {A1 A2 A3 A4 A5 A6 A7 A8 B : Type} {F G : (A1 → A2 → A3 → A4 → A5 → A6 → A7 → A8 → Option B) → A1 → A2 → A3 → A4 → A5 → A6 → A7 → A8 → Option B} (hF : F = G) {n : Nat} {x1 : A1} {x2 : A2} {x3 : A3} {x4 : A4} {x5 : A5} {x6 : A6} {x7 : A7} {x8 : A8} {r : B} (h : ql8 F (n + 1) x1 x2 x3 x4 x5 x6 x7 x8 = some r) : G (ql8 F n) x1 x2 x3 x4 x5 x6 x7 x8 = some r := by subst hF; exact h
def qj8 {A1 A2 A3 A4 A5 A6 A7 A8 B C : Type} (F : (A1 → A2 → A3 → A4 → A5 → A6 → A7 → A8 → Option B) → A1 → A2 → A3 → A4 → A5 → A6 → A7 → A8 → Option B) (f : (A1 → A2 → A3 → A4 → A5 → A6 → A7 → A8 → Option B) → Option C) : Option C := f (ql8 F 4096)
theorem qj8_some {A1 A2 A3 A4 A5 A6 A7 A8 B C : Type} {F : (A1 → A2 → A3 → A4 → A5 → A6 → A7 → A8 → Option B) → A1 → A2 → A3 → A4 → A5 → A6 → A7 → A8 → Option B} {f : (A1 → A2 → A3 → A4 → A5 → A6 → A7 → A8 → Option B) → Option C} {r : C} (h : qj8 F f = some r) : ∃ G, G = F ∧ f (ql8 G 4096) = some r := ⟨F, rfl, h⟩
theorem qa8 {A1 A2 A3 A4 A5 A6 A7 A8 B : Type} {f g : A1 → A2 → A3 → A4 → A5 → A6 → A7 → A8 → Option B} (hf : f = g) {x1 : A1} {x2 : A2} {x3 : A3} {x4 : A4} {x5 : A5} {x6 : A6} {x7 : A7} {x8 : A8} {r : B} (h : f x1 x2 x3 x4 x5 x6 x7 x8 = some r) : g x1 x2 x3 x4 x5 x6 x7 x8 = some r := by subst hf; exact h
def ql9 {A1 A2 A3 A4 A5 A6 A7 A8 A9 B : Type} (F : (A1 → A2 → A3 → A4 → A5 → A6 → A7 → A8 → A9 → Option B) → A1 → A2 → A3 → A4 → A5 → A6 → A7 → A8 → A9 → Option B) : Nat → A1 → A2 → A3 → A4 → A5 → A6 → A7 → A8 → A9 → Option B
  | 0 => fun _ _ _ _ _ _ _ _ _ => none
  | n + 1 => F (ql9 F n)
theorem ql9_z {A1 A2 A3 A4 A5 A6 A7 A8 A9 B : Type} {F : (A1 → A2 → A3 → A4 → A5 → A6 → A7 → A8 → A9 → Option B) → A1 → A2 → A3 → A4 → A5 → A6 → A7 → A8 → A9 → Option B} {x1 : A1} {x2 : A2} {x3 : A3} {x4 : A4} {x5 : A5} {x6 : A6} {x7 : A7} {x8 : A8} {x9 : A9} {r : B} (h : ql9 F 0 x1 x2 x3 x4 x5 x6 x7 x8 x9 = some r) : False := nomatch (show none = some r from h)
theorem ql9_s {A1 A2 A3 A4 A5 A6 A7 A8 A9 B : Type} {F G : (A1 → A2 → A3 → A4 → A5 → A6 → A7 → A8 → A9 → Option B) → A1 → A2 → A3 → A4 → A5 → A6 → A7 → A8 → A9 → Option B} (hF : F = G) {n : Nat} {x1 : A1} {x2 : A2} {x3 : A3} {x4 : A4} {x5 : A5} {x6 : A6} {x7 : A7} {x8 : A8} {x9 : A9} {r : B} (h : ql9 F (n + 1) x1 x2 x3 x4 x5 x6 x7 x8 x9 = some r) : G (ql9 F n) x1 x2 x3 x4 x5 x6 x7 x8 x9 = some r := by subst hF; exact h
def qj9 {A1 A2 A3 A4 A5 A6 A7 A8 A9 B C : Type} (F : (A1 → A2 → A3 → A4 → A5 → A6 → A7 → A8 → A9 → Option B) → A1 → A2 → A3 → A4 → A5 → A6 → A7 → A8 → A9 → Option B) (f : (A1 → A2 → A3 → A4 → A5 → A6 → A7 → A8 → A9 → Option B) → Option C) : Option C := f (ql9 F 4096)
theorem qj9_some {A1 A2 A3 A4 A5 A6 A7 A8 A9 B C : Type} {F : (A1 → A2 → A3 → A4 → A5 → A6 → A7 → A8 → A9 → Option B) → A1 → A2 → A3 → A4 → A5 → A6 → A7 → A8 → A9 → Option B} {f : (A1 → A2 → A3 → A4 → A5 → A6 → A7 → A8 → A9 → Option B) → Option C} {r : C} (h : qj9 F f = some r) : ∃ G, G = F ∧ f (ql9 G 4096) = some r := ⟨F, rfl, h⟩
theorem qa9 {A1 A2 A3 A4 A5 A6 A7 A8 A9 B : Type} {f g : A1 → A2 → A3 → A4 → A5 → A6 → A7 → A8 → A9 → Option B} (hf : f = g) {x1 : A1} {x2 : A2} {x3 : A3} {x4 : A4} {x5 : A5} {x6 : A6} {x7 : A7} {x8 : A8} {x9 : A9} {r : B} (h : f x1 x2 x3 x4 x5 x6 x7 x8 x9 = some r) : g x1 x2 x3 x4 x5 x6 x7 x8 x9 = some r := by subst hf; exact h
def ql10 {A1 A2 A3 A4 A5 A6 A7 A8 A9 A10 B : Type} (F : (A1 → A2 → A3 → A4 → A5 → A6 → A7 → A8 → A9 → A10 → Option B) → A1 → A2 → A3 → A4 → A5 → A6 → A7 → A8 → A9 → A10 → Option B) : Nat → A1 → A2 → A3 → A4 → A5 → A6 → A7 → A8 → A9 → A10 → Option B
  | 0 => fun _ _ _ _ _ _ _ _ _ _ => none
  | n + 1 => F (ql10 F n)
theorem ql10_z {A1 A2 A3 A4 A5 A6 A7 A8 A9 A10 B : Type} {F : (A1 → A2 → A3 → A4 → A5 → A6 → A7 → A8 → A9 → A10 → Option B) → A1 → A2 → A3 → A4 → A5 → A6 → A7 → A8 → A9 → A10 → Option B} {x1 : A1} {x2 : A2} {x3 : A3} {x4 : A4} {x5 : A5} {x6 : A6} {x7 : A7} {x8 : A8} {x9 : A9} {x10 : A10} {r : B} (h : ql10 F 0 x1 x2 x3 x4 x5 x6 x7 x8 x9 x10 = some r) : False := nomatch (show none = some r from h)
theorem ql10_s {A1 A2 A3 A4 A5 A6 A7 A8 A9 A10 B : Type} {F G : (A1 → A2 → A3 → A4 → A5 → A6 → A7 → A8 → A9 → A10 → Option B) → A1 → A2 → A3 → A4 → A5 → A6 → A7 → A8 → A9 → A10 → Option B} (hF : F = G) {n : Nat} {x1 : A1} {x2 : A2} {x3 : A3} {x4 : A4} {x5 : A5} {x6 : A6} {x7 : A7} {x8 : A8} {x9 : A9} {x10 : A10} {r : B} (h : ql10 F (n + 1) x1 x2 x3 x4 x5 x6 x7 x8 x9 x10 = some r) : G (ql10 F n) x1 x2 x3 x4 x5 x6 x7 x8 x9 x10 = some r := by subst hF; exact h
def qj10 {A1 A2 A3 A4 A5 A6 A7 A8 A9 A10 B C : Type} (F : (A1 → A2 → A3 → A4 → A5 → A6 → A7 → A8 → A9 → A10 → Option B) → A1 → A2 → A3 → A4 → A5 → A6 → A7 → A8 → A9 → A10 → Option B) (f : (A1 → A2 → A3 → A4 → A5 → A6 → A7 → A8 → A9 → A10 → Option B) → Option C) : Option C := f (ql10 F 4096)
theorem qj10_some {A1 A2 A3 A4 A5 A6 A7 A8 A9 A10 B C : Type} {F : (A1 → A2 → A3 → A4 → A5 → A6 → A7 → A8 → A9 → A10 → Option B) → A1 → A2 → A3 → A4 → A5 → A6 → A7 → A8 → A9 → A10 → Option B} {f : (A1 → A2 → A3 → A4 → A5 → A6 → A7 → A8 → A9 → A10 → Option B) → Option C} {r : C} (h : qj10 F f = some r) : ∃ G, G = F ∧ f (ql10 G 4096) = some r := ⟨F, rfl, h⟩
theorem qa10 {A1 A2 A3 A4 A5 A6 A7 A8 A9 A10 B : Type} {f g : A1 → A2 → A3 → A4 → A5 → A6 → A7 → A8 → A9 → A10 → Option B} (hf : f = g) {x1 : A1} {x2 : A2} {x3 : A3} {x4 : A4} {x5 : A5} {x6 : A6} {x7 : A7} {x8 : A8} {x9 : A9} {x10 : A10} {r : B} (h : f x1 x2 x3 x4 x5 x6 x7 x8 x9 x10 = some r) : g x1 x2 x3 x4 x5 x6 x7 x8 x9 x10 = some r := by subst hf; exact h
theorem qa0 {B : Type} {f g : Option B} (hf : f = g) {r : B} (h : f = some r) : g = some r := by subst hf; exact h
abbrev cls : List vw_C := [(RX0, TX0, 3), (RX1, TX1, 4), (RX2, TX2, 2), (RX3, TX3, 5), (RX4, TX4, 12), (RX5, TX5, 2), (RX6, TX6, 11), (RX7, TX7, 19)]
def wX0 (cI cZ : ClassId) (a : Nat → Nat) (u : S1) : va_W := [(a 0, .inr (0, [.ref (a 1), .ref (a 2), .int (u 2 0)])), (a 1, .inl (cI, 512, .inl (u 0))), (a 2, .inl (cZ, 32, .inl (u 1)))]
def wX1 (cI cZ : ClassId) (a : Nat → Nat) (u : S1) : va_W := [(a 0, .inr (1, [.ref (a 1), .ref (a 2), .ref (a 3), .int (u 3 0)])), (a 1, .inl (cZ, 64, .inl (u 0))), (a 2, .inl (cZ, 32, .inl (u 1))), (a 3, .inl (cI, 32, .inl (u 2)))]
def wX2 (cI cZ : ClassId) (a : Nat → Nat) (u : S1) : va_W := [(a 0, .inr (2, [.ref (a 1), .ref (a 2)])), (a 1, .inl (cI, 64, .inl (u 0))), (a 2, .inl (cZ, 64, .inl (u 1)))]
def wX3 (cI cZ : ClassId) (a : Nat → Nat) (u : S1) : va_W := [(a 0, .inr (3, [.ref (a 1), .ref (a 2), .ref (a 3), .ref (a 4), .int (u 4 0)])), (a 1, .inl (cI, 30, .inl (u 0))), (a 2, .inl (cZ, 30, .inl (u 1))), (a 3, .inl (cZ, 30, .inl (u 2))), (a 4, .inl (cI, 480, .inl (u 3)))]
def wX4 (cI cZ : ClassId) (a : Nat → Nat) (u : S1) : va_W := [(a 0, .inr (4, [.ref (a 1), .ref (a 2), .ref (a 3), .ref (a 4), .ref (a 5), .ref (a 6), .ref (a 7), .ref (a 8), .ref (a 9), .ref (a 10), .ref (a 11), .ref (a 12)])), (a 1, .inl (cI, 32, .inl (u 0))), (a 2, .inl (cI, 32, .inl (u 1))), (a 3, .inl (cI, 32, .inl (u 2))), (a 4, .inl (cI, 32, .inl (u 3))), (a 5, .inl (cI, 32, .inl (u 4))), (a 6, .inl (cI, 32, .inl (u 5))), (a 7, .inl (cI, 256, .inl (u 6))), (a 8, .inl (cI, 256, .inl (u 7))), (a 9, .inl (cI, 512, .inl (u 8))), (a 10, .inl (cI, 512, .inl (u 9))), (a 11, .inl (cI, 32, .inl (u 10))), (a 12, .inl (cI, 64, .inl (u 11)))]
def wX5 (cI cZ : ClassId) (a : Nat → Nat) (u : S1) : va_W := [(a 0, .inr (5, [.ref (a 1), .int (u 1 0)])), (a 1, .inl (cI, 20, .inl (u 0)))]
def wX7 (cI cZ : ClassId) (a : Nat → Nat) (u : S1) : va_W := [(a 0, .inr (7, [.ref (a 1), .ref (a 2), .ref (a 3), .ref (a 4), .ref (a 5), .ref (a 6), .ref (a 7), .int (u 7 0), .ref (a 9), .int (u 9 0), .ref (a 11), .ref (a 12), .ref (a 13), .ref (a 14), .ref (a 15), .int (u 15 0), .int (u 16 0), .int (u 17 0), .int (u 18 0)])), (a 1, .inl (cI, 8480, .inl (u 0))), (a 2, .inl (cZ, 5, .inl (u 1))), (a 3, .inl (cI, 64, .inl (u 2))), (a 4, .inl (cZ, 64, .inl (u 3))), (a 5, .inl (cZ, 512, .inl (u 4))), (a 6, .inl (cI, 512, .inl (u 5))), (a 7, .inl (cZ, 32, .inl (u 6))), (a 9, .inl (cI, 4, .inl (u 8))), (a 11, .inl (cI, 30, .inl (u 10))), (a 12, .inl (cZ, 30, .inl (u 11))), (a 13, .inl (cZ, 30, .inl (u 12))), (a 14, .inl (cI, 480, .inl (u 13))), (a 15, .inl (cI, 40, .inl (u 14)))]

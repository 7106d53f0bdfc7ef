def strs : List (Nat × String) := [(76, "no such user"), (90, "path or to is out of range"), (101, "no such thing or folder"), (112, "a folder, or no new name there"), (126, "from or to is out of range"), (142, "the thing cannot have that name"), (150, "path is out of range"), (152, "no such thing"), (157, "a folder with entries, or the user may not"), (165, "path or rights is out of range"), (170, "neither the user 0 nor the owner"), (178, "no such thing or user"), (180, "not the user 0"), (192, "no file, not allowed, or no handle left"), (220, "number is out of range"), (228, "no block for the page"), (261, "not blocks for all"), (276, "another handle has locked a page"), (287, "many is out of range"), (317, "there are 3 snapshots"), (322, "no such snapshot"), (327, "no such snapshot or page"), (329, "no such thing in the snapshot"), (331, "no file in the snapshot"), (333, "blocks is out of range"), (345, "what is out of range"), (359, "a handle is open"), (382, "no such entry"), (393, "no such page"), (407, "no such block"), (415, "no such handle"), (417, "last is below first"), (422, "the handle is closed"), (427, "the handle is only to read"), (432, "path, rights or target is out of range"), (434, "no such folder, or the last name is 0"), (439, "no new thing or name there"), (467, "no two files with a block to share"), (469, "no folder, or no entry")]
-- EXCEPTIONS: what a throwing method asks of the start, and how it ends
abbrev nms : List String := ["java/lang/RuntimeException", "java/lang/Exception"]
def exN : Nat → String := fun k => match k with
  | 1 => "java/lang/IllegalArgumentException"
  | 2 => "java/lang/IndexOutOfBoundsException"
  | _ => "java/lang/IllegalStateException"
def bad1 : List Cond := (vx_atS RX6 92 "java/lang/IllegalArgumentException" nms).filter (fun w => !goodWord w)
def bad2 : List Cond := (vx_atS RX6 78 "java/lang/IndexOutOfBoundsException" nms).filter (fun w => !goodWord w)
def bad3 : List Cond := (vx_atS RX6 114 "java/lang/IllegalStateException" nms).filter (fun w => !goodWord w)
theorem ok1 : (Cond.classLink RX6 88 "java/lang/IllegalArgumentException" :: Cond.initialized "java/lang/IllegalArgumentException" :: vx_atS RX6 92 "java/lang/IllegalArgumentException" nms).all vx_ot = true := by decide +kernel
theorem ok2 : (Cond.classLink RX6 74 "java/lang/IndexOutOfBoundsException" :: Cond.initialized "java/lang/IndexOutOfBoundsException" :: vx_atS RX6 78 "java/lang/IndexOutOfBoundsException" nms).all vx_ot = true := by decide +kernel
theorem ok3 : (Cond.classLink RX6 110 "java/lang/IllegalStateException" :: Cond.initialized "java/lang/IllegalStateException" :: vx_atS RX6 114 "java/lang/IllegalStateException" nms).all vx_ot = true := by decide +kernel
theorem okb : (bad1 ++ (bad2 ++ bad3)).all vx_ot = true := by decide +kernel
def isDC : Cond → Bool
  | .declares _ => true
  | .castable _ _ => true
  | _ => false
theorem okd : (bad1 ++ (bad2 ++ bad3)).all isDC = true := by decide +kernel
theorem bad_warm {s U : State} (hW : s.WarmedH U.vm) : ∀ {w : Cond}, isDC w = true → w.before #[] s = true → w.before #[] U = true := by
  intro w h hb
  cases w <;> first | exact va_Nw.warmD hW hb | exact va_Nw.warmC hW hb | (simp [isDC] at h; done)
def EX (A : Nat → Prop) (U : State) : Prop := vx_Zq Bundle.tN "UNASSIGNED_STACK" Bundle.steD A U U.heap ∧ vx_Zq Bundle.tN "SUPPRESSED_SENTINEL" Bundle.listD A U U.heap ∧ (∀ q ∈ strs, ∃ sa : Nat, vk_R RX6 q.1 q.2 sa U) ∧ ∀ w ∈ bad1 ++ (bad2 ++ bad3), w.before #[] U = true
theorem EX_bad {A : Nat → Prop} {s : State} (h : EX A s) {args : Array Value} {w : Cond} (hw : w ∈ bad1 ++ (bad2 ++ bad3)) : w.before args s = true := vx_ot_at (State.WarmedH.refl s) rfl (List.all_eq_true.mp okb w hw) (h.2.2.2 w hw)
theorem EX_b1 {A : Nat → Prop} {s : State} (h : EX A s) {args : Array Value} : ∀ w ∈ bad1, w.before args s = true := fun _ hw => EX_bad h (List.mem_append_left _ hw)
theorem EX_b2 {A : Nat → Prop} {s : State} (h : EX A s) {args : Array Value} : ∀ w ∈ bad2, w.before args s = true := fun _ hw => EX_bad h (List.mem_append_right _ (List.mem_append_left _ hw))
theorem EX_b3 {A : Nat → Prop} {s : State} (h : EX A s) {args : Array Value} : ∀ w ∈ bad3, w.before args s = true := fun _ hw => EX_bad h (List.mem_append_right _ (List.mem_append_right _ hw))
/-- .. at a call from here -/
theorem EX_call {A A' : Nat → Prop} {s U : State} {H : Heap} {locs : List Loc} (h : EX A s) (hS : va_S A s.heap H locs) (hA : ∀ q, A' q → A q) (hU : U.heap = H) (hW : s.WarmedH U.vm) : EX A' U := by
  obtain ⟨h1, h2, h3, h4⟩ := h
  have kp : ∀ a : Nat, a < s.heap.size → ¬ A a → U.heap[a]? = s.heap[a]? := fun a ha hn => by rw [hU]; exact hS.2.1 a ha hn
  exact ⟨vx_Zq.narrow (vx_Zq.moved hW.alike (vx_Zq.kept h1 kp)) hA, vx_Zq.narrow (vx_Zq.moved hW.alike (vx_Zq.kept h2 kp)) hA,
    fun q hq => by obtain ⟨sa, hs⟩ := h3 q hq; exact ⟨sa, vk_R.warm hW hs⟩,
    fun w hw => bad_warm hW (List.all_eq_true.mp okd w hw) (h4 w hw)⟩
theorem EX_blind {A : Nat → Prop} {U : State} {g : JFrame} {mk : MethodId} {a : Array Value} (h : EX A U) : EX A (U.calling g mk a) := by
  obtain ⟨h1, h2, h3, h4⟩ := h
  exact ⟨vx_Zq.moved (u := U) (U := U.calling g mk a) (Vm.Alike.refl U.vm) h1, vx_Zq.moved (u := U) (U := U.calling g mk a) (Vm.Alike.refl U.vm) h2,
    fun q hq => by obtain ⟨sa, hs⟩ := h3 q hq; exact ⟨sa, vk_R.same (u := U) (U := U.calling g mk a) rfl hs⟩,
    fun w hw => vx_ot_at (U := U.calling g mk a) (State.WarmedH.refl U) rfl (List.all_eq_true.mp okb w hw) (h4 w hw)⟩
def PX (D : va_G) (cls : List vw_C) (ty : List (ClassId × FieldType)) (w : va_W) (sz : Nat) : State → Prop := fun U => PW D cls ty w sz U ∧ EX (va_A w sz) U
theorem blX {av : List Value} {D : va_G} {cls : List vw_C} {ty : List (ClassId × FieldType)} {w : va_W} {sz : Nat} : FrameBlind (va_Pc av (PX D cls ty w sz)) := fun a U g mk h => ⟨h.1, (blW a U g mk ⟨h.1, h.2.1⟩ : va_Pc av (PW D cls ty w sz) a (U.calling g mk a)).2, EX_blind h.2.2⟩
def QXi (D : va_G) (cls : List vw_C) (k : Nat) (r : Int32) (w : va_W) (A : Nat → Prop) : Array Value → State → Outcome → State → Prop := va_Qi (fun x (_ : Unit) => k = 0 ∧ x = r) (fun _ t => va_P D cls w t.heap) A
def QXv (D : va_G) (cls : List vw_C) (k : Nat) (w : va_W) (A : Nat → Prop) : Array Value → State → Outcome → State → Prop := va_Qv (fun (_ : Unit) => k = 0) (fun _ t => va_P D cls w t.heap) A
def XX (D : va_G) (cls : List vw_C) (k : Nat) (w : va_W) (A : Nat → Prop) : String → State → State → Prop := vx_X (fun (_ : Unit) => True) (fun E _ t => (k ≠ 0 ∧ E = exN k) ∧ va_P D cls w t.heap) A
section MyX
variable {p : Program} {l : Launch} {e : Env} {R : Room} {s : State} {m : MethodId} {args : Array Value} {below : List Frame} {meth : Method} {c : Code} {H : Heap} {locs : List Loc} {cells slots : Nat} {Q : State → Prop}
variable {y : MethodName} {bytes cc : ByteArray} {maxL nL mc ms n index pc : Nat} {ret : Option FieldType} {ws : List Cond} {rm : Room} {Ts : List Cond} {own C : String} {b : Addr} {st0 rest As : List Value} {ls : Array Slot} {D : va_G} {cls : List vw_C} {ty : List (ClassId × FieldType)} {wc wc' : va_W} {r : Int32} {k : Nat} {A : Nat → Prop}
theorem W_top {v v2 : Value} (h : v = v2) (kk : W p l e R s m args below meth c H locs cells slots Q (F0 m pc ls (v2 :: rest))) : W p l e R s m args below meth c H locs cells slots Q (F0 m pc ls (v :: rest)) := by rw [h]; exact kk
theorem cXVi (S : CallFix p m c cc nL s args Ts own) (hM : vx_Met l y ws rm (va_Pc (.ref b :: As) (PX D cls ty wc H.size)) (QXi D cls k r wc' (va_A wc H.size)) (XX D cls k wc' (va_A wc H.size)) mc ms (va_A wc H.size)) (cw : CallW R s args own C index y bytes maxL ret ws rm mc ms n)
    (hP : va_P D cls wc H) (hK : va_K D cls ty s) (hD : va_D A wc) (hE : EX A s) (hS : va_S A s.heap H locs) (hF : ∀ q, va_A wc H.size q → A q) (hrec : ∃ cell : Cell, H[b]? = some cell ∧ cell.vm.isStatics = false ∧ s.vm.findClass C = some cell.cls)
    (hst : st0 = As.reverse ++ .ref b :: rest) (hn : As.length = n) (hsize : ls.size = nL) (hW : (rest.map fun v => v.category).sum ≤ 8) (hdg : decode cc pc = .ok (.invokevirtual index, 3)) (hf : cells + mc ≤ R.cells ∧ slots + ms ≤ R.slots)
    (kx : ∀ (E : String) (ce : Cell) (q9 : Addr) (H1 : Heap) (locs1 : List Loc), k ≠ 0 → E = exN k → va_P D cls wc' H1 → va_S A s.heap H1 locs1 → H1[q9]? = some ce → ce.vm = .none → s.vm.findClass E = some ce.cls → vx_W p l e R s m args below meth c H1 locs1 (cells + mc) (slots + ms) Q (F0 m pc ls rest) q9)
    (kk : ∀ (H1 : Heap) (locs1 : List Loc), k = 0 → va_P D cls wc' H1 → va_S A s.heap H1 locs1 → W p l e R s m args below meth c H1 locs1 (cells + mc) (slots + ms) Q (F0 m (pc + 3) ls (.int r :: rest))) : W p l e R s m args below meth c H locs cells slots Q (F0 m pc ls st0) :=
  vx_calli (vx_runV (As := As) (rest := rest) S hM cw ⟨blX, hrec, fun U hU hW => ⟨rfl, ⟨by rw [hU], by rw [hU]; exact hP, va_K.moved hW.alike hK, hD.weaken (fun _ _ _ _ => trivial)⟩, EX_call hE hS hF hU hW⟩⟩ rfl hn hsize hst (lv_room hW) hdg hf) hS (fun q _ h => hF q h) hF (fun q _ h => hF q h)
    (fun E ce q9 u t H1 locs1 ht _ _ hB _ _ hS1 hce hcv hcl => kx E ce q9 H1 locs1 hB.1.1 hB.1.2 (ht ▸ hB.2) hS1 hce hcv hcl)
    (fun z u t H1 locs1 ht _ hz hB _ _ hS1 => by rw [hz.2]; exact kk H1 locs1 hz.1 (ht ▸ hB) hS1)
theorem cXVv (S : CallFix p m c cc nL s args Ts own) (hM : vx_Met l y ws rm (va_Pc (.ref b :: As) (PX D cls ty wc H.size)) (QXv D cls k wc' (va_A wc H.size)) (XX D cls k wc' (va_A wc H.size)) mc ms (va_A wc H.size)) (cw : CallW R s args own C index y bytes maxL ret ws rm mc ms n)
    (hP : va_P D cls wc H) (hK : va_K D cls ty s) (hD : va_D A wc) (hE : EX A s) (hS : va_S A s.heap H locs) (hF : ∀ q, va_A wc H.size q → A q) (hrec : ∃ cell : Cell, H[b]? = some cell ∧ cell.vm.isStatics = false ∧ s.vm.findClass C = some cell.cls)
    (hst : st0 = As.reverse ++ .ref b :: rest) (hn : As.length = n) (hsize : ls.size = nL) (hW : (rest.map fun v => v.category).sum ≤ 8) (hdg : decode cc pc = .ok (.invokevirtual index, 3)) (hf : cells + mc ≤ R.cells ∧ slots + ms ≤ R.slots)
    (kx : ∀ (E : String) (ce : Cell) (q9 : Addr) (H1 : Heap) (locs1 : List Loc), k ≠ 0 → E = exN k → va_P D cls wc' H1 → va_S A s.heap H1 locs1 → H1[q9]? = some ce → ce.vm = .none → s.vm.findClass E = some ce.cls → vx_W p l e R s m args below meth c H1 locs1 (cells + mc) (slots + ms) Q (F0 m pc ls rest) q9)
    (kk : ∀ (H1 : Heap) (locs1 : List Loc), k = 0 → va_P D cls wc' H1 → va_S A s.heap H1 locs1 → W p l e R s m args below meth c H1 locs1 (cells + mc) (slots + ms) Q (F0 m (pc + 3) ls rest)) : W p l e R s m args below meth c H locs cells slots Q (F0 m pc ls st0) :=
  vx_callv (vx_runV (As := As) (rest := rest) S hM cw ⟨blX, hrec, fun U hU hW => ⟨rfl, ⟨by rw [hU], by rw [hU]; exact hP, va_K.moved hW.alike hK, hD.weaken (fun _ _ _ _ => trivial)⟩, EX_call hE hS hF hU hW⟩⟩ rfl hn hsize hst (lv_room hW) hdg hf) hS (fun q _ h => hF q h) hF (fun q _ h => hF q h)
    (fun E ce q9 u t H1 locs1 ht _ _ hB _ _ hS1 hce hcv hcl => kx E ce q9 H1 locs1 hB.1.1 hB.1.2 (ht ▸ hB.2) hS1 hce hcv hcl)
    (fun u t H1 locs1 ht _ hz hB _ _ hS1 => kk H1 locs1 hz (ht ▸ hB) hS1)
theorem cXSv (S : CallFix p m c cc nL s args Ts own) (hM : vx_Met l y ws rm (va_Pc As (PX D cls ty wc H.size)) (QXv D cls k wc' (va_A wc H.size)) (XX D cls k wc' (va_A wc H.size)) mc ms (va_A wc H.size)) (cw : CallB R s args own index y bytes maxL ret ws rm mc ms n ∧ (Cond.static y).before args s = true)
    (hP : va_P D cls wc H) (hK : va_K D cls ty s) (hD : va_D A wc) (hE : EX A s) (hS : va_S A s.heap H locs) (hF : ∀ q, va_A wc H.size q → A q)
    (hst : st0 = As.reverse ++ rest) (hn : As.length = n) (hsize : ls.size = nL) (hW : (rest.map fun v => v.category).sum ≤ 8) (hdg : decode cc pc = .ok (.invokestatic index, 3)) (hf : cells + mc ≤ R.cells ∧ slots + ms ≤ R.slots)
    (kx : ∀ (E : String) (ce : Cell) (q9 : Addr) (H1 : Heap) (locs1 : List Loc), k ≠ 0 → E = exN k → va_P D cls wc' H1 → va_S A s.heap H1 locs1 → H1[q9]? = some ce → ce.vm = .none → s.vm.findClass E = some ce.cls → vx_W p l e R s m args below meth c H1 locs1 (cells + mc) (slots + ms) Q (F0 m pc ls rest) q9)
    (kk : ∀ (H1 : Heap) (locs1 : List Loc), k = 0 → va_P D cls wc' H1 → va_S A s.heap H1 locs1 → W p l e R s m args below meth c H1 locs1 (cells + mc) (slots + ms) Q (F0 m (pc + 3) ls rest)) : W p l e R s m args below meth c H locs cells slots Q (F0 m pc ls st0) :=
  vx_callv (vx_runS (As := As) (rest := rest) S hM cw ⟨blX, fun U hU hW => ⟨rfl, ⟨by rw [hU], by rw [hU]; exact hP, va_K.moved hW.alike hK, hD.weaken (fun _ _ _ _ => trivial)⟩, EX_call hE hS hF hU hW⟩⟩ rfl hn hsize hst (lv_room hW) hdg hf) hS (fun q _ h => hF q h) hF (fun q _ h => hF q h)
    (fun E ce q9 u t H1 locs1 ht _ _ hB _ _ hS1 hce hcv hcl => kx E ce q9 H1 locs1 hB.1.1 hB.1.2 (ht ▸ hB.2) hS1 hce hcv hcl)
    (fun u t H1 locs1 ht _ hz hB _ _ hS1 => kk H1 locs1 hz (ht ▸ hB) hS1)
/-- what came over a call goes on to the caller -/
theorem xout {Qc : Array Value → State → Outcome → State → Prop} {E : String} {ce : Cell} {q : Addr} {w : va_W} (hxt : ∀ x ∈ c.exceptionTable.toList, False) (hlocks : meth.locks = false) (hk : k ≠ 0) (hE : E = exN k) (hP : va_P D cls w H) (hS : va_S A s.heap H locs) (hce : H[q]? = some ce) (hcv : ce.vm = .none) (hcl : s.vm.findClass E = some ce.cls) (hc : cells ≤ mc) (hs : slots ≤ ms) :
    vx_W p l e R s m args below meth c H locs cells slots (vx_MQ below Qc (XX D cls k w A) args s mc ms A) (F0 m pc ls rest) q :=
  vx_out (fun x hx => (hxt x hx).elim) hlocks hce hcv hcl (fun t ht _ => ⟨(), trivial, ⟨⟨hk, hE⟩, P_at ht hP⟩, hS.F ht⟩) hS.2.2 hc hs
theorem thr_x {w : va_W} {X : String} (hk : k ≠ 0) (hX : X = exN k) (hP : va_P D cls w H) (hS : va_S A s.heap H locs) (t : State) (_ : s.vm.Alike t.vm) (h1 : H.size ≤ t.heap.size) (h2 : ∀ q : Nat, q < H.size → t.heap[q]? = H[q]?) : XX D cls k w A X s t :=
  ⟨(), trivial, ⟨⟨hk, hX⟩, P_kept hP h2⟩, Nat.le_trans hS.1 h1, fun q hq hn => by rw [h2 q (Nat.lt_of_lt_of_le hq hS.1)]; exact hS.2.1 q hq hn⟩
/-- 'throw new E("text")' in a method of Inodery -/
theorem thr {Qc : Array Value → State → Outcome → State → Prop} {w : va_W} (k : Nat) {X text : String} {ik is ic : Nat} (hX : X = exN k) (hk0 : k ≠ 0) (hexec : p.tables.exec = Jvm.exec) (hb : c.code = cc) (hl : l.stackTraces = false) (hown : s.vm.findClass RX6 = some m.cls) (hfit : Bundle.fit X = true)
    (hk : (Cond.classLink RX6 ik X).before args s = true) (hini : (Cond.initialized X).before args s = true) (hg : ∀ w ∈ (vx_atS RX6 ic X nms).filter goodWord, w.before args s = true) (hB : ∀ w ∈ (vx_atS RX6 ic X nms).filter (fun w => !goodWord w), w.before args s = true)
    (hok : (Cond.classLink RX6 ik X :: Cond.initialized X :: vx_atS RX6 ic X nms).all vx_ot = true) (hq : (is, text) ∈ strs) (hE : EX A s) (hS : va_S A s.heap H locs) (hP : va_P D cls w H) (hsize : ls.size = c.maxLocals)
    (d0 : decode cc pc = .ok (.new ik, 3)) (d3 : decode cc (pc + 3) = .ok (.dup, 1)) (d4 : decode cc (pc + 4) = .ok (.ldc is, 2)) (d6 : decode cc (pc + 6) = .ok (.invokespecial ic, 3)) (d9 : decode cc (pc + 9) = .ok (.athrow, 1))
    (hxt : ∀ x ∈ c.exceptionTable.toList, False) (hR1 : nms.length + 3 < R.frames) (hR2 : (rest.map fun v => v.category).sum + (13 * (nms.length + 1) + 43) ≤ R.locals) (hR3 : cells + 1 ≤ R.cells) (hR4 : slots + 6 ≤ R.slots) (hlocks : meth.locks = false) (hc : cells + 1 ≤ mc) (hs : slots + 6 ≤ ms) :
    W p l e R s m args below meth c H locs cells slots (vx_MQ below Qc (XX D cls k w A) args s mc ms A) (F0 m pc ls rest) := by
  obtain ⟨sa, hstr⟩ := hE.2.2.1 _ hq
  exact vx_throwS hexec hb hl hown hfit (by decide) hk hini hstr (vx_hat hg (fun _ h => h) hB) (fun w hw => List.all_eq_true.mp hok w hw) hE.1 hE.2.1 hS hsize d0 d3 d4 d6 d9 (fun x hx => (hxt x hx).elim) hR1 hR2 hR3 hR4 hlocks (thr_x hk0 hX hP hS) hS.2.2 hc hs
theorem thrW {Qc : Array Value → State → Outcome → State → Prop} {w : va_W} (k : Nat) {X text : String} {ik is ic : Nat} (hX : X = exN k) (hk0 : k ≠ 0) (hexec : p.tables.exec = Jvm.exec) (hb : c.code = cc) (hl : l.stackTraces = false) (hown : s.vm.findClass RX6 = some m.cls) (hfit : Bundle.fit X = true)
    (hk : (Cond.classLink RX6 ik X).before args s = true) (hini : (Cond.initialized X).before args s = true) (hg : ∀ w ∈ (vx_atS RX6 ic X nms).filter goodWord, w.before args s = true) (hB : ∀ w ∈ (vx_atS RX6 ic X nms).filter (fun w => !goodWord w), w.before args s = true)
    (hok : (Cond.classLink RX6 ik X :: Cond.initialized X :: vx_atS RX6 ic X nms).all vx_ot = true) (hq : (is, text) ∈ strs) (hE : EX A s) (hS : va_S A s.heap H locs) (hP : va_P D cls w H) (hsize : ls.size = c.maxLocals)
    (d0 : decode cc pc = .ok (.new ik, 3)) (d3 : decode cc (pc + 3) = .ok (.dup, 1)) (d4 : decode cc (pc + 4) = .ok (.ldc_w is, 3)) (d7 : decode cc (pc + 7) = .ok (.invokespecial ic, 3)) (d10 : decode cc (pc + 10) = .ok (.athrow, 1))
    (hxt : ∀ x ∈ c.exceptionTable.toList, False) (hR1 : nms.length + 3 < R.frames) (hR2 : (rest.map fun v => v.category).sum + (13 * (nms.length + 1) + 43) ≤ R.locals) (hR3 : cells + 1 ≤ R.cells) (hR4 : slots + 6 ≤ R.slots) (hlocks : meth.locks = false) (hc : cells + 1 ≤ mc) (hs : slots + 6 ≤ ms) :
    W p l e R s m args below meth c H locs cells slots (vx_MQ below Qc (XX D cls k w A) args s mc ms A) (F0 m pc ls rest) := by
  obtain ⟨sa, hstr⟩ := hE.2.2.1 _ hq
  exact vx_throwSW hexec hb hl hown hfit (by decide) hk hini hstr (vx_hat hg (fun _ h => h) hB) (fun w hw => List.all_eq_true.mp hok w hw) hE.1 hE.2.1 hS hsize d0 d3 d4 d7 d10 (fun x hx => (hxt x hx).elim) hR1 hR2 hR3 hR4 hlocks (thr_x hk0 hX hP hS) hS.2.2 hc hs
end MyX
def wX6o (cI cZ cT : ClassId) (a : Nat → Nat → Nat) (u : S1) : va_W := [(a 0 0, .inr (6, [.ref (a 1 0), .ref (a 2 0), .ref (a 0 1), .ref (a 0 2), .ref (a 6 0), .ref (a 7 0), .ref (a 8 0), .ref (a 9 0), .ref (a 10 0), .ref (a 0 3), .int (u 10 0)])), (a 0 1, .inl (cT, 3, .inr (.inr (.inr (.inr (fun i => some (a (3 + i) 0))))))), (a 0 2, .inl (cZ, 3, .inl (u 3))), (a 0 3, .inl (cI, 4, .inl (u 9)))]
abbrev wI (cI cZ cT : ClassId) (a : Nat → Nat → Nat) (U : S2) : va_W := List.flatten [wX6o cI cZ cT a (U 0), wX4 cI cZ (a 1) (U 1), wX4 cI cZ (a 2) (U 2), wX4 cI cZ (a 3) (U 3), wX4 cI cZ (a 4) (U 4), wX4 cI cZ (a 5) (U 5), wX5 cI cZ (a 6) (U 6), wX2 cI cZ (a 7) (U 7), wX0 cI cZ (a 8) (U 8), wX3 cI cZ (a 9) (U 9), wX1 cI cZ (a 10) (U 10)]

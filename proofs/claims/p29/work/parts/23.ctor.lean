-- CONSTRUCTORS
def z0 : S1 := fun _ _ => 0
def QC (D : va_G) (cls : List vw_C) (w : (Nat → Nat) → va_W) (h : Nat) (A : Nat → Prop) : Array Value → State → Outcome → State → Prop := va_Qv (fun (_ : Unit) => True) (fun _ t => ∃ a : Nat → Nat, a 0 = h ∧ va_P D cls (w a) t.heap ∧ va_D A (w a)) A
theorem K_I {D : va_G} {cls : List vw_C} {cI cZ cJ cT cA : ClassId} {s : State} (h : va_K D cls (tys cI cZ cJ cT) s) (h1 : va_K D cls (tys cI cZ cJ cT ++ [(cA, .int)]) s) : cI = cA :=
  Option.some.inj ((show s.vm.findClass _ = some cI from (h.2 0 (cI, .int) rfl).2).symm.trans (show s.vm.findClass _ = some cA from (h1.2 4 (cA, .int) rfl).2))
theorem K_Z {D : va_G} {cls : List vw_C} {cI cZ cJ cT cA : ClassId} {s : State} (h : va_K D cls (tys cI cZ cJ cT) s) (h1 : va_K D cls (tys cI cZ cJ cT ++ [(cA, .boolean)]) s) : cZ = cA :=
  Option.some.inj ((show s.vm.findClass _ = some cZ from (h.2 1 (cZ, .boolean) rfl).2).symm.trans (show s.vm.findClass _ = some cA from (h1.2 4 (cA, .boolean) rfl).2))
theorem K_J {D : va_G} {cls : List vw_C} {cI cZ cJ cT cA : ClassId} {s : State} (h : va_K D cls (tys cI cZ cJ cT) s) (h1 : va_K D cls (tys cI cZ cJ cT ++ [(cA, .long)]) s) : cJ = cA :=
  Option.some.inj ((show s.vm.findClass _ = some cJ from (h.2 2 (cJ, .long) rfl).2).symm.trans (show s.vm.findClass _ = some cA from (h1.2 4 (cA, .long) rfl).2))
theorem K_T {D : va_G} {cls : List vw_C} {cI cZ cJ cT cA : ClassId} {s : State} (h : va_K D cls (tys cI cZ cJ cT) s) (h1 : va_K D cls (tys cI cZ cJ cT ++ [(cA, .object "Inodery$Tree")]) s) : cT = cA := by
  obtain ⟨_, _, _, _, _, e1⟩ := (h.2 3 (cT, .object "Inodery$Tree") rfl).2
  obtain ⟨_, _, _, _, _, e2⟩ := (h1.2 4 (cA, .object "Inodery$Tree") rfl).2
  exact Option.some.inj (e1.symm.trans e2)
theorem fl_push {D : va_G} {cl : List vw_C} {L : List va_W} {c : va_W} {H : Heap} (h : va_P D cl (L.flatten ++ c) H) : va_P D cl (L ++ [c]).flatten H := by
  rw [List.flatten_append]
  simpa using h
theorem fl_pushD {A : Nat → Prop} {L : List va_W} {c : va_W} (h : va_D A (L.flatten ++ c)) : va_D A (L ++ [c]).flatten := by
  rw [List.flatten_append]
  simpa using h
/-- behind a call that made of the last part a greater one -/
theorem last_join {A0 : Nat → Prop} {D : va_G} {cl : List vw_C} {L : List va_W} {c c' : va_W} {H H1 : Heap} (hP : va_P D cl (L ++ [c]).flatten H) (hD : va_D A0 (L ++ [c]).flatten) (hf : ∀ q : Nat, q < H.size → ¬ va_A c H.size q → H1[q]? = H[q]?) (hF : ∀ q, va_A c H.size q → A0 q) (hP1 : va_P D cl c' H1) (hD1 : va_D (va_A c H.size) c') : va_P D cl (L ++ [c']).flatten H1 ∧ va_D A0 (L ++ [c']).flatten := by
  have e : ∀ x : va_W, (L ++ [x]).flatten = L.flatten ++ x := fun x => by rw [List.flatten_append]; simp
  rw [e] at hP hD ⊢
  have dD := D_app hD
  have hne : ∀ x ∈ L.flatten, ¬ va_A c H.size x.1 ∧ x.1 < H.size := fun x hx => by
    have hl := (P_of.mp hP x (List.mem_append_left _ hx)).lt
    refine ⟨fun h => ?_, hl⟩
    rcases h with ⟨j, e, h⟩ | h
    · exact dD.2.2 x hx (x.1, e) (List.mem_of_getElem? h) rfl
    · exact Nat.lt_irrefl _ (Nat.lt_of_lt_of_le hl h)
  refine ⟨P_of.mpr (fun x hm => ?_), va_D.app dD.1 (hD1.weaken (fun k q _ h => hF q.1 h)) (fun i j x y hx hy hxy => ?_)⟩
  · rcases List.mem_append.mp hm with h | h
    · exact (P_of.mp hP x (List.mem_append_left _ h)).kept (hf x.1 (hne x h).2 (hne x h).1)
    · exact P_of.mp hP1 x h
  · exact (hne x (List.mem_of_getElem? hx)).1 (by rw [hxy]; exact hD1.2 j y hy)
def sn3 (x y z : Nat) : Nat → Nat := fun i => match i with
  | 0 => x
  | 1 => y
  | _ => z
theorem snap_eq {D : va_G} {cl : List vw_C} {q : Nat} {cT : ClassId} {f g : Nat → Option Nat} {H : Heap} (h : va_P D cl [(q, .inl (cT, 3, .inr (.inr (.inr (.inr f)))))] H) (e : ∀ i, i < 3 → f i = g i) : va_P D cl [(q, .inl (cT, 3, .inr (.inr (.inr (.inr g)))))] H := by
  refine P_of.mpr (fun x hx => ?_)
  have hx' : x = (q, .inl (cT, 3, .inr (.inr (.inr (.inr g))))) := by simpa using hx
  subst hx'
  have h0 : H[q]? = some (vp_cell cT (3, .inr (.inr (.inr (.inr f))))) := P_of.mp h _ List.mem_cons_self
  have h1 : vp_cell cT (3, .inr (.inr (.inr (.inr f)))) = vp_cell cT (3, .inr (.inr (.inr (.inr g)))) := by
    show arrV cT 3 (fun j => va_rf (f j)) = arrV cT 3 (fun j => va_rf (g j))
    unfold arrV
    have : (fun j : Fin 3 => va_rf (f j.val)) = fun j : Fin 3 => va_rf (g j.val) := funext fun j => by rw [e j.val j.isLt]
    simp only [this]
  show H[q]? = some (vp_cell cT (3, .inr (.inr (.inr (.inr g)))))
  rw [← h1]
  exact h0
def QC6 (D : va_G) (cls : List vw_C) (w : (Nat → Nat → Nat) → va_W) (h : Nat) (A : Nat → Prop) : Array Value → State → Outcome → State → Prop := va_Qv (fun (_ : Unit) => True) (fun _ t => ∃ a : Nat → Nat → Nat, a 0 0 = h ∧ va_P D cls (w a) t.heap ∧ va_D A (w a)) A
def P6 (D : va_G) (cls : List vw_C) (ty : List (ClassId × FieldType)) (w : va_W) (sz : Nat) : State → Prop := fun U => PW D cls ty w sz U ∧ va_AO "Inodery$Tree" U ∧ va_Nw (.methodLinkNest RX6 29 yX5_init RX6) U ∧ va_Nw (.methodLinkNest RX6 36 yX2_init RX6) U ∧ va_Nw (.methodLinkNest RX6 50 yX3_init RX6) U ∧ va_Nw (.methodLinkNest RX6 57 yX1_init RX6) U
theorem bl6 {av : List Value} {D : va_G} {cls : List vw_C} {ty : List (ClassId × FieldType)} {w : va_W} {sz : Nat} : FrameBlind (va_Pc av (P6 D cls ty w sz)) := fun a U g mk h => ⟨h.1, (blW a U g mk ⟨h.1, h.2.1⟩ : va_Pc av (PW D cls ty w sz) a (U.calling g mk a)).2, va_AO.moved (u := U) (U := U.calling g mk a) (Vm.Alike.refl U.vm) h.2.2.1, va_Nw.same (U := U.calling g mk a) rfl rfl h.2.2.2.1, va_Nw.same (U := U.calling g mk a) rfl rfl h.2.2.2.2.1, va_Nw.same (U := U.calling g mk a) rfl rfl h.2.2.2.2.2.1, va_Nw.same (U := U.calling g mk a) rfl rfl h.2.2.2.2.2.2⟩
section MyC
variable {p : Program} {l : Launch} {e : Env} {R : Room} {s : State} {m : MethodId} {args : Array Value} {below : List Frame} {meth : Method} {c : Code} {H : Heap} {locs : List Loc} {cells slots : Nat} {Q : State → Prop}
variable {y : MethodName} {bytes cc : ByteArray} {maxL nL mc ms n index pc : Nat} {ws : List Cond} {rm : Room} {Ts : List Cond} {own C : String} {b : Addr} {rest As : List Value} {ls : Array Slot} {D : va_G} {cls : List vw_C} {ty : List (ClassId × FieldType)} {wc : va_W} {A : Nat → Prop}
theorem cC {w : (Nat → Nat) → va_W} (S : CallFix p m c cc nL s args Ts own) (hM : Met l y ws rm (va_Pc [.ref b] (PW D cls ty wc H.size)) (QC D cls w b (va_A wc H.size)) mc ms (va_A wc H.size)) (cw : CallB R s args own index y bytes maxL none ws rm mc ms 0 ∧ y.name = "<init>" ∧ (Cond.instanceMethod y).before args s = true)
    (hP : va_P D cls wc H) (hK : va_K D cls ty s) (hD : va_D A wc) (hS : va_S A s.heap H locs) (hF : ∀ q, va_A wc H.size q → A q)
    (hn : ([] : List Value).length = 0) (hsize : ls.size = nL) (hW : (rest.map fun v => v.category).sum ≤ 8) (hdg : decode cc pc = .ok (.invokespecial index, 3)) (hf : cells + mc ≤ R.cells ∧ slots + ms ≤ R.slots)
    (kk : ∀ (a : Nat → Nat) (H1 : Heap) (locs1 : List Loc), a 0 = b → va_P D cls (w a) H1 → va_D (va_A wc H.size) (w a) → (∀ q : Nat, q < H.size → ¬ va_A wc H.size q → H1[q]? = H[q]?) → va_S A s.heap H1 locs1 → W p l e R s m args below meth c H1 locs1 (cells + mc) (slots + ms) Q (F0 m (pc + 3) ls rest)) : W p l e R s m args below meth c H locs cells slots Q (F0 m pc ls (.ref b :: rest)) :=
  va_callv (va_runI (As := []) (rest := rest) S hM cw ⟨blW, fun U hU hW => ⟨rfl, by rw [hU], by rw [hU]; exact hP, va_K.moved hW.alike hK, hD.weaken (fun _ _ _ _ => trivial)⟩⟩ rfl hn hsize rfl (lv_room hW) hdg hf) hS (fun q _ h => hF q h) hF
    (fun u t H1 locs1 ht _ _ hB _ hk hS1 => by
      obtain ⟨a, e0, h1, h2⟩ := hB
      exact kk a H1 locs1 e0 (ht ▸ h1) h2 hk hS1)
theorem cC6 {w : (Nat → Nat → Nat) → va_W} (S : CallFix p m c cc nL s args Ts own) (hM : Met l y ws rm (va_Pc [.ref b] (P6 D cls ty wc H.size)) (QC6 D cls w b (va_A wc H.size)) mc ms (va_A wc H.size)) (cw : CallB R s args own index y bytes maxL none ws rm mc ms 0 ∧ y.name = "<init>" ∧ (Cond.instanceMethod y).before args s = true)
    (hP : va_P D cls wc H) (hK : va_K D cls ty s) (hD : va_D A wc) (hAO : va_AO "Inodery$Tree" s) (hN5 : va_Nw (.methodLinkNest RX6 29 yX5_init RX6) s) (hN2 : va_Nw (.methodLinkNest RX6 36 yX2_init RX6) s) (hN3 : va_Nw (.methodLinkNest RX6 50 yX3_init RX6) s) (hN1 : va_Nw (.methodLinkNest RX6 57 yX1_init RX6) s) (hS : va_S A s.heap H locs) (hF : ∀ q, va_A wc H.size q → A q)
    (hn : ([] : List Value).length = 0) (hsize : ls.size = nL) (hW : (rest.map fun v => v.category).sum ≤ 8) (hdg : decode cc pc = .ok (.invokespecial index, 3)) (hf : cells + mc ≤ R.cells ∧ slots + ms ≤ R.slots)
    (kk : ∀ (a : Nat → Nat → Nat) (H1 : Heap) (locs1 : List Loc), a 0 0 = b → va_P D cls (w a) H1 → va_D (va_A wc H.size) (w a) → (∀ q : Nat, q < H.size → ¬ va_A wc H.size q → H1[q]? = H[q]?) → va_S A s.heap H1 locs1 → W p l e R s m args below meth c H1 locs1 (cells + mc) (slots + ms) Q (F0 m (pc + 3) ls rest)) : W p l e R s m args below meth c H locs cells slots Q (F0 m pc ls (.ref b :: rest)) :=
  va_callv (va_runI (As := []) (rest := rest) S hM cw ⟨bl6, fun U hU hW => ⟨rfl, ⟨by rw [hU], by rw [hU]; exact hP, va_K.moved hW.alike hK, hD.weaken (fun _ _ _ _ => trivial)⟩, va_AO.moved hW.alike hAO, va_Nw.warmM hW hN5, va_Nw.warmM hW hN2, va_Nw.warmM hW hN3, va_Nw.warmM hW hN1⟩⟩ rfl hn hsize rfl (lv_room hW) hdg hf) hS (fun q _ h => hF q h) hF
    (fun u t H1 locs1 ht _ _ hB _ hk hS1 => by
      obtain ⟨a, e0, h1, h2⟩ := hB
      exact kk a H1 locs1 e0 (ht ▸ h1) h2 hk hS1)
theorem cCN {host : String} {w : (Nat → Nat) → va_W} (S : CallFix p m c cc nL s args Ts own) (hM : Met l y ws rm (va_Pc [.ref b] (PW D cls ty wc H.size)) (QC D cls w b (va_A wc H.size)) mc ms (va_A wc H.size)) (cw : va_CN R s args own index y host bytes maxL none ws rm mc ms 0 ∧ y.name = "<init>" ∧ (Cond.instanceMethod y).before args s = true)
    (hP : va_P D cls wc H) (hK : va_K D cls ty s) (hD : va_D A wc) (hS : va_S A s.heap H locs) (hF : ∀ q, va_A wc H.size q → A q)
    (hn : ([] : List Value).length = 0) (hsize : ls.size = nL) (hW : (rest.map fun v => v.category).sum ≤ 8) (hdg : decode cc pc = .ok (.invokespecial index, 3)) (hf : cells + mc ≤ R.cells ∧ slots + ms ≤ R.slots)
    (kk : ∀ (a : Nat → Nat) (H1 : Heap) (locs1 : List Loc), a 0 = b → va_P D cls (w a) H1 → va_D (va_A wc H.size) (w a) → (∀ q : Nat, q < H.size → ¬ va_A wc H.size q → H1[q]? = H[q]?) → va_S A s.heap H1 locs1 → W p l e R s m args below meth c H1 locs1 (cells + mc) (slots + ms) Q (F0 m (pc + 3) ls rest)) : W p l e R s m args below meth c H locs cells slots Q (F0 m pc ls (.ref b :: rest)) :=
  va_callv (va_runIN (As := []) (rest := rest) S hM cw ⟨blW, fun U hU hW => ⟨rfl, by rw [hU], by rw [hU]; exact hP, va_K.moved hW.alike hK, hD.weaken (fun _ _ _ _ => trivial)⟩⟩ rfl hn hsize rfl (lv_room hW) hdg hf) hS (fun q _ h => hF q h) hF
    (fun u t H1 locs1 ht _ _ hB _ hk hS1 => by
      obtain ⟨a, e0, h1, h2⟩ := hB
      exact kk a H1 locs1 e0 (ht ▸ h1) h2 hk hS1)
end MyC
theorem dX0_init_0 : decode cX0_init 0 = .ok (.aload_n 0, 1) := by decide +kernel
theorem dX0_init_1 : decode cX0_init 1 = .ok (.invokespecial 3, 3) := by decide +kernel
theorem dX0_init_4 : decode cX0_init 4 = .ok (.aload_n 0, 1) := by decide +kernel
theorem dX0_init_5 : decode cX0_init 5 = .ok (.sipush 512, 3) := by decide +kernel
theorem dX0_init_8 : decode cX0_init 8 = .ok (.newarray .int, 2) := by decide +kernel
theorem dX0_init_10 : decode cX0_init 10 = .ok (.putfield 9, 3) := by decide +kernel
theorem dX0_init_13 : decode cX0_init 13 = .ok (.aload_n 0, 1) := by decide +kernel
theorem dX0_init_14 : decode cX0_init 14 = .ok (.bipush 32, 2) := by decide +kernel
theorem dX0_init_16 : decode cX0_init 16 = .ok (.newarray .boolean, 2) := by decide +kernel
theorem dX0_init_18 : decode cX0_init 18 = .ok (.putfield 15, 3) := by decide +kernel
theorem dX0_init_21 : decode cX0_init 21 = .ok (.aload_n 0, 1) := by decide +kernel
theorem dX0_init_22 : decode cX0_init 22 = .ok (.iconst 0, 1) := by decide +kernel
theorem dX0_init_23 : decode cX0_init 23 = .ok (.putfield 19, 3) := by decide +kernel
theorem dX0_init_26 : decode cX0_init 26 = .ok (.iconst 0, 1) := by decide +kernel
theorem dX0_init_27 : decode cX0_init 27 = .ok (.istore_n 1, 1) := by decide +kernel
theorem dX0_init_28 : decode cX0_init 28 = .ok (.iload_n 1, 1) := by decide +kernel
theorem dX0_init_29 : decode cX0_init 29 = .ok (.sipush 512, 3) := by decide +kernel
theorem dX0_init_32 : decode cX0_init 32 = .ok (.if_icmp .ge 16, 3) := by decide +kernel
theorem dX0_init_35 : decode cX0_init 35 = .ok (.aload_n 0, 1) := by decide +kernel
theorem dX0_init_36 : decode cX0_init 36 = .ok (.getfield 9, 3) := by decide +kernel
theorem dX0_init_39 : decode cX0_init 39 = .ok (.iload_n 1, 1) := by decide +kernel
theorem dX0_init_40 : decode cX0_init 40 = .ok (.iconst (-1), 1) := by decide +kernel
theorem dX0_init_41 : decode cX0_init 41 = .ok (.iastore, 1) := by decide +kernel
theorem dX0_init_42 : decode cX0_init 42 = .ok (.iinc 1 1, 3) := by decide +kernel
theorem dX0_init_45 : decode cX0_init 45 = .ok (.goto (-17), 3) := by decide +kernel
theorem dX0_init_48 : decode cX0_init 48 = .ok (.return_, 1) := by decide +kernel
def f_X0_init : Option S1 := qj2 (fun (r28_1 : Int32 → S1 → Option (S1)) (y28_1_1 : Int32) (u28_1_0 : S1) => if 512 ≤ y28_1_1 then some u28_1_0 else chk (inb y28_1_1 512) (bv (st u28_1_0 0 y28_1_1 (-1)) (fun u_3 => r28_1 (y28_1_1 + 1) u_3))) (fun k28_1 => k28_1 0 z0)
def rmX0_init : Room := { frames := 1, cells := 2, slots := 544, locals := 12 }
set_option maxHeartbeats 4000000 in
set_option maxRecDepth 100000 in
theorem c_X0_init (l : Launch) (D : va_G) (cI cZ cJ cT : ClassId) (h0 sz : Nat) (o : S1) (hf : f_X0_init = some o) : Met l yX0_init wsX0_init rmX0_init (va_Pc [.ref h0] (PW D cls (tys cI cZ cJ cT) ([(h0, .inr (0, [.null, .null, .int 0]))] : va_W) sz)) (QC D cls (fun a => wX0 cI cZ a o) h0 (va_A ([(h0, .inr (0, [.null, .null, .int 0]))] : va_W) sz)) 2 544 (va_A ([(h0, .inr (0, [.null, .null, .int 0]))] : va_W) sz) := by
  refine Met.ofW (cc := cX0_init) (maxL := 2) (ret := none) (by decide) rfl ?_
  intro p e s m args below meth c s₁ B hml hv
  obtain ⟨hav, hsz, hP, hK, hD0⟩ := hv
  have hx := B.exec
  have hb := B.bytes
  have hr := B.returns
  have hlocks := B.notSynchronized
  have hts := atoms_spec (ws := wsX0_init) B.pre
  have hown : s.vm.findClass RX0 = some m.cls := findClass_of_methodNamed B.named
  have hin : meth.name = "<init>" := (name_of_methodNamed B.named B.method).1
  have i0 : ∀ w ∈ wsX00, w ∈ wsX0_init := fun w h => List.mem_cons_of_mem _ (List.mem_append_right _ h)
  have hk9 := hts (.fieldLink RX0 9 "Inodery$Cache" "numbers" "[I") (by decide +kernel)
  have hk15 := hts (.fieldLink RX0 15 "Inodery$Cache" "errors" "[Z") (by decide +kernel)
  have hk19 := hts (.fieldLink RX0 19 "Inodery$Cache" "many" "I") (by decide +kernel)
  subst hsz
  have hD := hD0.self (sz := s.heap.size)
  generalize hAe : va_A ([(h0, .inr (0, [.null, .null, .int 0]))] : va_W) s.heap.size = A at hD ⊢
  have hA : ∀ q : Nat, s.heap.size ≤ q → A q := fun q h => by rw [← hAe]; exact Or.inr h
  have hS : va_S A s.heap s.heap [] := va_S.rf
  refine Wq (fun Q hQ => ?_)
  refine W_entry hav (Nat.le_of_ble_eq_true rfl) (fun ls hl => ?_)
  have hl : lv_has ls 2 [(0, .ref h0)] := hl
  unfold f_X0_init at hf
  refine W_heap hP hS (fun H locs hP hS => ?_)
  refine lv_aload_n hx hb dX0_init_0 rfl (lv_at hl 0 rfl) ?_
  refine W.objInit hx hb hown (hts (.methodLink RX0 3 objectInit) (by decide +kernel)) (hts (.instanceMethod objectInit) (by decide +kernel)) (hts (.code objectInit ⟨#[0xb1]⟩ 1 none) (by decide +kernel)) rfl (by rw [hml]; exact hl.1) rfl dX0_init_1 (Nat.le_of_ble_eq_true rfl) (Nat.le_of_ble_eq_true rfl) ?_
  refine W.eq (g2 := F0 m 4 ls []) rfl ?_
  refine lv_aload_n hx hb dX0_init_4 rfl (lv_at hl 0 rfl) ?_
  refine lv_sipush (v := 512) hx hb dX0_init_5 (by decide) ?_
  refine va_newa (atype := .int) (ty := .int) (N' := 512) (a0 := (512, .inl (fun _ => 0))) hx hb (hts (.arrayClass .int) (by decide +kernel)) rfl hK hP hD hS hA (fun _ => rfl) (by decide) (by decide) (Nat.le_of_ble_eq_true rfl) (Nat.le_of_ble_eq_true rfl) (Nat.le_of_ble_eq_true rfl) dX0_init_8 (fun q0 cA H hK1 hP hD hS => ?_)
  have eA : cI = cA := K_I hK hK1
  subst eA
  have hP : va_P D cls ([(h0, .inr (0, [.null, .null, .int 0])), (q0, .inl (cI, 512, .inl (fun _ => 0)))] : va_W) H := hP
  have hD : va_D A ([(h0, .inr (0, [.null, .null, .int 0])), (q0, .inl (cI, 512, .inl (fun _ => 0)))] : va_W) := hD
  refine W.cs (cells' := 1) (slots' := 512) rfl rfl ?_
  refine va_putF (D := D) (ci := 0) (v := .ref q0) (ty := .array .int) (C := RX0) (T := TX0) (N := 3) hx hb hts i0 tyX0 tyX0_ok nmX0 hown hK hP hD hS 0 rfl rfl 0 (by decide) hk9 (fun _ h9 => h9) rfl hin rfl (by decide +kernel) rfl rfl (Nat.le_of_ble_eq_true rfl) dX0_init_10 (fun H locs hP hD hS => ?_)
  have hP : va_P D cls ([(h0, .inr (0, [.ref q0, .null, .int 0])), (q0, .inl (cI, 512, .inl (fun _ => 0)))] : va_W) H := hP
  have hD : va_D A ([(h0, .inr (0, [.ref q0, .null, .int 0])), (q0, .inl (cI, 512, .inl (fun _ => 0)))] : va_W) := hD
  refine lv_aload_n hx hb dX0_init_13 rfl (lv_at hl 0 rfl) ?_
  refine lv_bipush (v := 32) hx hb dX0_init_14 (by decide) ?_
  refine va_newa (atype := .boolean) (ty := .boolean) (N' := 32) (a0 := (32, .inl (fun _ => 0))) hx hb (hts (.arrayClass .boolean) (by decide +kernel)) rfl hK hP hD hS hA (fun _ => rfl) (by decide) (by decide) (Nat.le_of_ble_eq_true rfl) (Nat.le_of_ble_eq_true rfl) (Nat.le_of_ble_eq_true rfl) dX0_init_16 (fun q1 cA H hK1 hP hD hS => ?_)
  have eA : cZ = cA := K_Z hK hK1
  subst eA
  have hP : va_P D cls ([(h0, .inr (0, [.ref q0, .null, .int 0])), (q0, .inl (cI, 512, .inl (fun _ => 0))), (q1, .inl (cZ, 32, .inl (fun _ => 0)))] : va_W) H := hP
  have hD : va_D A ([(h0, .inr (0, [.ref q0, .null, .int 0])), (q0, .inl (cI, 512, .inl (fun _ => 0))), (q1, .inl (cZ, 32, .inl (fun _ => 0)))] : va_W) := hD
  refine W.cs (cells' := 2) (slots' := 544) rfl rfl ?_
  refine va_putF (D := D) (ci := 0) (v := .ref q1) (ty := .array .boolean) (C := RX0) (T := TX0) (N := 3) hx hb hts i0 tyX0 tyX0_ok nmX0 hown hK hP hD hS 0 rfl rfl 1 (by decide) hk15 (fun _ h9 => h9) rfl hin rfl (by decide +kernel) rfl rfl (Nat.le_of_ble_eq_true rfl) dX0_init_18 (fun H locs hP hD hS => ?_)
  have hP : va_P D cls ([(h0, .inr (0, [.ref q0, .ref q1, .int 0])), (q0, .inl (cI, 512, .inl (fun _ => 0))), (q1, .inl (cZ, 32, .inl (fun _ => 0)))] : va_W) H := hP
  have hD : va_D A ([(h0, .inr (0, [.ref q0, .ref q1, .int 0])), (q0, .inl (cI, 512, .inl (fun _ => 0))), (q1, .inl (cZ, 32, .inl (fun _ => 0)))] : va_W) := hD
  refine lv_aload_n hx hb dX0_init_21 rfl (lv_at hl 0 rfl) ?_
  refine lv_iconst (v := 0) hx hb dX0_init_22 (by decide) ?_
  refine va_put (D := D) (ci := 0) (v := .int 0) (ty := .int) (C := RX0) (T := TX0) (N := 3) hx hb hts i0 tyX0 tyX0_ok nmX0 hown hK hP hD hS 0 rfl rfl 2 (by decide) hk19 (fun _ h9 => h9) rfl (by decide +kernel) rfl rfl (Nat.le_of_ble_eq_true rfl) dX0_init_23 (fun H locs hP hD hS => ?_)
  have hP : va_P D cls ([(h0, .inr (0, [.ref q0, .ref q1, .int 0])), (q0, .inl (cI, 512, .inl (fun _ => 0))), (q1, .inl (cZ, 32, .inl (fun _ => 0)))] : va_W) H := hP
  have hD : va_D A ([(h0, .inr (0, [.ref q0, .ref q1, .int 0])), (q0, .inl (cI, 512, .inl (fun _ => 0))), (q1, .inl (cZ, 32, .inl (fun _ => 0)))] : va_W) := hD
  obtain ⟨a0, ha0⟩ : ∃ a0 : Nat → Nat, a0 = (fun k => [h0, q0, q1, h0].getD k 0) := ⟨_, rfl⟩
  have e0 : a0 0 = h0 := by rw [ha0]; rfl
  have hP : va_P D cls (wX0 cI cZ a0 z0) H := by rw [ha0]; exact hP
  have hD : va_D A (wX0 cI cZ a0 z0) := by rw [ha0]; exact hD
  have hDD : ∀ w : S1, va_D A (wX0 cI cZ a0 w) := fun _ => D_same (w := (wX0 cI cZ a0 z0)) rfl hD
  have hl : lv_has ls 2 [(0, .ref (a0 0))] := by rw [e0]; exact hl
  refine lv_iconst (v := 0) hx hb dX0_init_26 (by decide) ?_
  refine lv_istore_n (lv' := [(1, .int 0), (0, .ref (a0 0))]) hx hb dX0_init_27 rfl hl (by decide) rfl (fun ls hl => ?_)
  obtain ⟨G28_1, hG28_1, hf⟩ := qj2_some hf
  have j28_1 : ∀ (n : Nat) (y28_1_1 : Int32) (u28_1_0 : S1) (H : Heap) (locs : List Loc) (ls : Array Slot), ql2 G28_1 n y28_1_1 u28_1_0 = some o → va_P D cls (wX0 cI cZ a0 u28_1_0) H → va_S A s.heap H locs → lv_has ls 2 [(0, .ref (a0 0)), (1, .int y28_1_1)] → W p l e (headSpec wsX0_init rmX0_init).room s m args below meth c H locs 2 544 Q (F0 m 28 ls []) := by
    intro n
    induction n with
    | zero => intro y28_1_1 u28_1_0 H locs ls hf hP hS hl; exact (ql2_z hf).elim
    | succ n ih28_1 =>
      intro y28_1_1 u28_1_0 H locs ls hf hP hS hl
      have hf := ql2_s hG28_1 hf
      obtain ⟨r28_1, hr28_1⟩ : ∃ z, z = ql2 G28_1 n := ⟨_, rfl⟩
      rw [← hr28_1] at hf ih28_1
      refine lv_iload_n hx hb dX0_init_28 rfl (lv_at hl 1 rfl) ?_
      refine lv_sipush (v := 512) hx hb dX0_init_29 (by decide) ?_
      refine lv_icmp_ge (tgt := 48) hx hb dX0_init_32 (by decide) (fun c_2 => ?_) (fun c_2 => ?_)
      · have hf := ite_t hf c_2
        have eo := Option.some.inj hf
        have hP : va_P D cls (wX0 cI cZ a0 o) H := by rw [← eo]; exact hP
        rw [hQ]
        exact W.vret hx hb hr (fun t ht hW => ⟨⟨(), rfl, trivial, a0, e0, P_at ht hP, hDD _⟩, hS.F ht⟩) hS.2.2 dX0_init_48 hlocks
      · have hf := ite_f hf c_2
        refine lv_aload_n hx hb dX0_init_35 rfl (lv_at hl 0 rfl) ?_
        refine va_get (D := D) (ci := 0) (v := .ref (a0 1)) (C := RX0) (T := TX0) (N := 3) hx hb hts i0 hown hK hP 0 rfl rfl 0 (by decide) hk9 (fun _ h9 => h9) rfl dX0_init_36 ?_
        refine lv_iload_n hx hb dX0_init_39 rfl (lv_at hl 1 rfl) ?_
        refine lv_iconst (v := (-1)) hx hb dX0_init_40 (by decide) ?_
        obtain ⟨hi, hf⟩ := chk_some hf
        obtain ⟨u_3, hu_3, hf⟩ := bv_some hf
        refine va_iast hx hb hK hP (hDD u28_1_0) hS 1 0 rfl rfl (inb_in hi) dX0_init_41 (fun H locs hP _ hS => ?_)
        have hP : va_P D cls (wX0 cI cZ a0 u_3) H := by rw [hu_3]; exact hP
        refine lv_iinc (v := y28_1_1 + 1) (lv' := [(1, .int (y28_1_1 + 1)), (0, .ref (a0 0))]) hx hb dX0_init_42 hl (k := 1) rfl rfl (by decide) rfl (fun ls hl => ?_)
        refine lv_goto (tgt := 28) hx hb dX0_init_45 (by decide) ?_
        exact ih28_1 _ _ _ _ _ hf hP hS (lv_sub hl [1, 0] rfl)
  exact j28_1 4096 _ _ _ _ _ hf hP hS (lv_sub hl [1, 0] rfl)
theorem dX1_init_0 : decode cX1_init 0 = .ok (.aload_n 0, 1) := by decide +kernel
theorem dX1_init_1 : decode cX1_init 1 = .ok (.invokespecial 3, 3) := by decide +kernel
theorem dX1_init_4 : decode cX1_init 4 = .ok (.aload_n 0, 1) := by decide +kernel
theorem dX1_init_5 : decode cX1_init 5 = .ok (.bipush 64, 2) := by decide +kernel
theorem dX1_init_7 : decode cX1_init 7 = .ok (.newarray .boolean, 2) := by decide +kernel
theorem dX1_init_9 : decode cX1_init 9 = .ok (.putfield 9, 3) := by decide +kernel
theorem dX1_init_12 : decode cX1_init 12 = .ok (.aload_n 0, 1) := by decide +kernel
theorem dX1_init_13 : decode cX1_init 13 = .ok (.bipush 32, 2) := by decide +kernel
theorem dX1_init_15 : decode cX1_init 15 = .ok (.newarray .boolean, 2) := by decide +kernel
theorem dX1_init_17 : decode cX1_init 17 = .ok (.putfield 15, 3) := by decide +kernel
theorem dX1_init_20 : decode cX1_init 20 = .ok (.aload_n 0, 1) := by decide +kernel
theorem dX1_init_21 : decode cX1_init 21 = .ok (.bipush 32, 2) := by decide +kernel
theorem dX1_init_23 : decode cX1_init 23 = .ok (.newarray .int, 2) := by decide +kernel
theorem dX1_init_25 : decode cX1_init 25 = .ok (.putfield 18, 3) := by decide +kernel
theorem dX1_init_28 : decode cX1_init 28 = .ok (.aload_n 0, 1) := by decide +kernel
theorem dX1_init_29 : decode cX1_init 29 = .ok (.iconst 0, 1) := by decide +kernel
theorem dX1_init_30 : decode cX1_init 30 = .ok (.putfield 22, 3) := by decide +kernel
theorem dX1_init_33 : decode cX1_init 33 = .ok (.return_, 1) := by decide +kernel
def f_X1_init : Option S1 := some z0
def rmX1_init : Room := { frames := 1, cells := 3, slots := 128, locals := 12 }
set_option maxHeartbeats 4000000 in
set_option maxRecDepth 100000 in
theorem c_X1_init (l : Launch) (D : va_G) (cI cZ cJ cT : ClassId) (h0 sz : Nat) (o : S1) (hf : f_X1_init = some o) : Met l yX1_init wsX1_init rmX1_init (va_Pc [.ref h0] (PW D cls (tys cI cZ cJ cT) ([(h0, .inr (1, [.null, .null, .null, .int 0]))] : va_W) sz)) (QC D cls (fun a => wX1 cI cZ a o) h0 (va_A ([(h0, .inr (1, [.null, .null, .null, .int 0]))] : va_W) sz)) 3 128 (va_A ([(h0, .inr (1, [.null, .null, .null, .int 0]))] : va_W) sz) := by
  refine Met.ofW (cc := cX1_init) (maxL := 1) (ret := none) (by decide) rfl ?_
  intro p e s m args below meth c s₁ B hml hv
  obtain ⟨hav, hsz, hP, hK, hD0⟩ := hv
  have hx := B.exec
  have hb := B.bytes
  have hr := B.returns
  have hlocks := B.notSynchronized
  have hts := atoms_spec (ws := wsX1_init) B.pre
  have hown : s.vm.findClass RX1 = some m.cls := findClass_of_methodNamed B.named
  have hin : meth.name = "<init>" := (name_of_methodNamed B.named B.method).1
  have i1 : ∀ w ∈ wsX10, w ∈ wsX1_init := fun w h => List.mem_cons_of_mem _ (List.mem_append_right _ h)
  have hk9 := hts (.fieldLink RX1 9 "Inodery$Checker" "isSeen" "[Z") (by decide +kernel)
  have hk15 := hts (.fieldLink RX1 15 "Inodery$Checker" "isReached" "[Z") (by decide +kernel)
  have hk18 := hts (.fieldLink RX1 18 "Inodery$Checker" "reached" "[I") (by decide +kernel)
  have hk22 := hts (.fieldLink RX1 22 "Inodery$Checker" "many" "I") (by decide +kernel)
  subst hsz
  have hD := hD0.self (sz := s.heap.size)
  generalize hAe : va_A ([(h0, .inr (1, [.null, .null, .null, .int 0]))] : va_W) s.heap.size = A at hD ⊢
  have hA : ∀ q : Nat, s.heap.size ≤ q → A q := fun q h => by rw [← hAe]; exact Or.inr h
  have hS : va_S A s.heap s.heap [] := va_S.rf
  refine Wq (fun Q hQ => ?_)
  refine W_entry hav (Nat.le_of_ble_eq_true rfl) (fun ls hl => ?_)
  have hl : lv_has ls 1 [(0, .ref h0)] := hl
  unfold f_X1_init at hf
  refine W_heap hP hS (fun H locs hP hS => ?_)
  refine lv_aload_n hx hb dX1_init_0 rfl (lv_at hl 0 rfl) ?_
  refine W.objInit hx hb hown (hts (.methodLink RX1 3 objectInit) (by decide +kernel)) (hts (.instanceMethod objectInit) (by decide +kernel)) (hts (.code objectInit ⟨#[0xb1]⟩ 1 none) (by decide +kernel)) rfl (by rw [hml]; exact hl.1) rfl dX1_init_1 (Nat.le_of_ble_eq_true rfl) (Nat.le_of_ble_eq_true rfl) ?_
  refine W.eq (g2 := F0 m 4 ls []) rfl ?_
  refine lv_aload_n hx hb dX1_init_4 rfl (lv_at hl 0 rfl) ?_
  refine lv_bipush (v := 64) hx hb dX1_init_5 (by decide) ?_
  refine va_newa (atype := .boolean) (ty := .boolean) (N' := 64) (a0 := (64, .inl (fun _ => 0))) hx hb (hts (.arrayClass .boolean) (by decide +kernel)) rfl hK hP hD hS hA (fun _ => rfl) (by decide) (by decide) (Nat.le_of_ble_eq_true rfl) (Nat.le_of_ble_eq_true rfl) (Nat.le_of_ble_eq_true rfl) dX1_init_7 (fun q0 cA H hK1 hP hD hS => ?_)
  have eA : cZ = cA := K_Z hK hK1
  subst eA
  have hP : va_P D cls ([(h0, .inr (1, [.null, .null, .null, .int 0])), (q0, .inl (cZ, 64, .inl (fun _ => 0)))] : va_W) H := hP
  have hD : va_D A ([(h0, .inr (1, [.null, .null, .null, .int 0])), (q0, .inl (cZ, 64, .inl (fun _ => 0)))] : va_W) := hD
  refine W.cs (cells' := 1) (slots' := 64) rfl rfl ?_
  refine va_putF (D := D) (ci := 1) (v := .ref q0) (ty := .array .boolean) (C := RX1) (T := TX1) (N := 4) hx hb hts i1 tyX1 tyX1_ok nmX1 hown hK hP hD hS 0 rfl rfl 0 (by decide) hk9 (fun _ h9 => h9) rfl hin rfl (by decide +kernel) rfl rfl (Nat.le_of_ble_eq_true rfl) dX1_init_9 (fun H locs hP hD hS => ?_)
  have hP : va_P D cls ([(h0, .inr (1, [.ref q0, .null, .null, .int 0])), (q0, .inl (cZ, 64, .inl (fun _ => 0)))] : va_W) H := hP
  have hD : va_D A ([(h0, .inr (1, [.ref q0, .null, .null, .int 0])), (q0, .inl (cZ, 64, .inl (fun _ => 0)))] : va_W) := hD
  refine lv_aload_n hx hb dX1_init_12 rfl (lv_at hl 0 rfl) ?_
  refine lv_bipush (v := 32) hx hb dX1_init_13 (by decide) ?_
  refine va_newa (atype := .boolean) (ty := .boolean) (N' := 32) (a0 := (32, .inl (fun _ => 0))) hx hb (hts (.arrayClass .boolean) (by decide +kernel)) rfl hK hP hD hS hA (fun _ => rfl) (by decide) (by decide) (Nat.le_of_ble_eq_true rfl) (Nat.le_of_ble_eq_true rfl) (Nat.le_of_ble_eq_true rfl) dX1_init_15 (fun q1 cA H hK1 hP hD hS => ?_)
  have eA : cZ = cA := K_Z hK hK1
  subst eA
  have hP : va_P D cls ([(h0, .inr (1, [.ref q0, .null, .null, .int 0])), (q0, .inl (cZ, 64, .inl (fun _ => 0))), (q1, .inl (cZ, 32, .inl (fun _ => 0)))] : va_W) H := hP
  have hD : va_D A ([(h0, .inr (1, [.ref q0, .null, .null, .int 0])), (q0, .inl (cZ, 64, .inl (fun _ => 0))), (q1, .inl (cZ, 32, .inl (fun _ => 0)))] : va_W) := hD
  refine W.cs (cells' := 2) (slots' := 96) rfl rfl ?_
  refine va_putF (D := D) (ci := 1) (v := .ref q1) (ty := .array .boolean) (C := RX1) (T := TX1) (N := 4) hx hb hts i1 tyX1 tyX1_ok nmX1 hown hK hP hD hS 0 rfl rfl 1 (by decide) hk15 (fun _ h9 => h9) rfl hin rfl (by decide +kernel) rfl rfl (Nat.le_of_ble_eq_true rfl) dX1_init_17 (fun H locs hP hD hS => ?_)
  have hP : va_P D cls ([(h0, .inr (1, [.ref q0, .ref q1, .null, .int 0])), (q0, .inl (cZ, 64, .inl (fun _ => 0))), (q1, .inl (cZ, 32, .inl (fun _ => 0)))] : va_W) H := hP
  have hD : va_D A ([(h0, .inr (1, [.ref q0, .ref q1, .null, .int 0])), (q0, .inl (cZ, 64, .inl (fun _ => 0))), (q1, .inl (cZ, 32, .inl (fun _ => 0)))] : va_W) := hD
  refine lv_aload_n hx hb dX1_init_20 rfl (lv_at hl 0 rfl) ?_
  refine lv_bipush (v := 32) hx hb dX1_init_21 (by decide) ?_
  refine va_newa (atype := .int) (ty := .int) (N' := 32) (a0 := (32, .inl (fun _ => 0))) hx hb (hts (.arrayClass .int) (by decide +kernel)) rfl hK hP hD hS hA (fun _ => rfl) (by decide) (by decide) (Nat.le_of_ble_eq_true rfl) (Nat.le_of_ble_eq_true rfl) (Nat.le_of_ble_eq_true rfl) dX1_init_23 (fun q2 cA H hK1 hP hD hS => ?_)
  have eA : cI = cA := K_I hK hK1
  subst eA
  have hP : va_P D cls ([(h0, .inr (1, [.ref q0, .ref q1, .null, .int 0])), (q0, .inl (cZ, 64, .inl (fun _ => 0))), (q1, .inl (cZ, 32, .inl (fun _ => 0))), (q2, .inl (cI, 32, .inl (fun _ => 0)))] : va_W) H := hP
  have hD : va_D A ([(h0, .inr (1, [.ref q0, .ref q1, .null, .int 0])), (q0, .inl (cZ, 64, .inl (fun _ => 0))), (q1, .inl (cZ, 32, .inl (fun _ => 0))), (q2, .inl (cI, 32, .inl (fun _ => 0)))] : va_W) := hD
  refine W.cs (cells' := 3) (slots' := 128) rfl rfl ?_
  refine va_putF (D := D) (ci := 1) (v := .ref q2) (ty := .array .int) (C := RX1) (T := TX1) (N := 4) hx hb hts i1 tyX1 tyX1_ok nmX1 hown hK hP hD hS 0 rfl rfl 2 (by decide) hk18 (fun _ h9 => h9) rfl hin rfl (by decide +kernel) rfl rfl (Nat.le_of_ble_eq_true rfl) dX1_init_25 (fun H locs hP hD hS => ?_)
  have hP : va_P D cls ([(h0, .inr (1, [.ref q0, .ref q1, .ref q2, .int 0])), (q0, .inl (cZ, 64, .inl (fun _ => 0))), (q1, .inl (cZ, 32, .inl (fun _ => 0))), (q2, .inl (cI, 32, .inl (fun _ => 0)))] : va_W) H := hP
  have hD : va_D A ([(h0, .inr (1, [.ref q0, .ref q1, .ref q2, .int 0])), (q0, .inl (cZ, 64, .inl (fun _ => 0))), (q1, .inl (cZ, 32, .inl (fun _ => 0))), (q2, .inl (cI, 32, .inl (fun _ => 0)))] : va_W) := hD
  refine lv_aload_n hx hb dX1_init_28 rfl (lv_at hl 0 rfl) ?_
  refine lv_iconst (v := 0) hx hb dX1_init_29 (by decide) ?_
  refine va_put (D := D) (ci := 1) (v := .int 0) (ty := .int) (C := RX1) (T := TX1) (N := 4) hx hb hts i1 tyX1 tyX1_ok nmX1 hown hK hP hD hS 0 rfl rfl 3 (by decide) hk22 (fun _ h9 => h9) rfl (by decide +kernel) rfl rfl (Nat.le_of_ble_eq_true rfl) dX1_init_30 (fun H locs hP hD hS => ?_)
  have hP : va_P D cls ([(h0, .inr (1, [.ref q0, .ref q1, .ref q2, .int 0])), (q0, .inl (cZ, 64, .inl (fun _ => 0))), (q1, .inl (cZ, 32, .inl (fun _ => 0))), (q2, .inl (cI, 32, .inl (fun _ => 0)))] : va_W) H := hP
  have hD : va_D A ([(h0, .inr (1, [.ref q0, .ref q1, .ref q2, .int 0])), (q0, .inl (cZ, 64, .inl (fun _ => 0))), (q1, .inl (cZ, 32, .inl (fun _ => 0))), (q2, .inl (cI, 32, .inl (fun _ => 0)))] : va_W) := hD
  obtain ⟨a0, ha0⟩ : ∃ a0 : Nat → Nat, a0 = (fun k => [h0, q0, q1, q2, h0].getD k 0) := ⟨_, rfl⟩
  have e0 : a0 0 = h0 := by rw [ha0]; rfl
  have hP : va_P D cls (wX1 cI cZ a0 z0) H := by rw [ha0]; exact hP
  have hD : va_D A (wX1 cI cZ a0 z0) := by rw [ha0]; exact hD
  have hDD : ∀ w : S1, va_D A (wX1 cI cZ a0 w) := fun _ => D_same (w := (wX1 cI cZ a0 z0)) rfl hD
  have hl : lv_has ls 1 [(0, .ref (a0 0))] := by rw [e0]; exact hl
  have eo := Option.some.inj hf
  have hP : va_P D cls (wX1 cI cZ a0 o) H := by rw [← eo]; exact hP
  rw [hQ]
  exact W.vret hx hb hr (fun t ht hW => ⟨⟨(), rfl, trivial, a0, e0, P_at ht hP, hDD _⟩, hS.F ht⟩) hS.2.2 dX1_init_33 hlocks
theorem dX2_init_0 : decode cX2_init 0 = .ok (.aload_n 0, 1) := by decide +kernel
theorem dX2_init_1 : decode cX2_init 1 = .ok (.invokespecial 3, 3) := by decide +kernel
theorem dX2_init_4 : decode cX2_init 4 = .ok (.aload_n 0, 1) := by decide +kernel
theorem dX2_init_5 : decode cX2_init 5 = .ok (.bipush 64, 2) := by decide +kernel
theorem dX2_init_7 : decode cX2_init 7 = .ok (.newarray .int, 2) := by decide +kernel
theorem dX2_init_9 : decode cX2_init 9 = .ok (.putfield 9, 3) := by decide +kernel
theorem dX2_init_12 : decode cX2_init 12 = .ok (.aload_n 0, 1) := by decide +kernel
theorem dX2_init_13 : decode cX2_init 13 = .ok (.bipush 64, 2) := by decide +kernel
theorem dX2_init_15 : decode cX2_init 15 = .ok (.newarray .boolean, 2) := by decide +kernel
theorem dX2_init_17 : decode cX2_init 17 = .ok (.putfield 15, 3) := by decide +kernel
theorem dX2_init_20 : decode cX2_init 20 = .ok (.return_, 1) := by decide +kernel
def f_X2_init : Option S1 := some z0
def rmX2_init : Room := { frames := 1, cells := 2, slots := 128, locals := 12 }
set_option maxHeartbeats 4000000 in
set_option maxRecDepth 100000 in
theorem c_X2_init (l : Launch) (D : va_G) (cI cZ cJ cT : ClassId) (h0 sz : Nat) (o : S1) (hf : f_X2_init = some o) : Met l yX2_init wsX2_init rmX2_init (va_Pc [.ref h0] (PW D cls (tys cI cZ cJ cT) ([(h0, .inr (2, [.null, .null]))] : va_W) sz)) (QC D cls (fun a => wX2 cI cZ a o) h0 (va_A ([(h0, .inr (2, [.null, .null]))] : va_W) sz)) 2 128 (va_A ([(h0, .inr (2, [.null, .null]))] : va_W) sz) := by
  refine Met.ofW (cc := cX2_init) (maxL := 1) (ret := none) (by decide) rfl ?_
  intro p e s m args below meth c s₁ B hml hv
  obtain ⟨hav, hsz, hP, hK, hD0⟩ := hv
  have hx := B.exec
  have hb := B.bytes
  have hr := B.returns
  have hlocks := B.notSynchronized
  have hts := atoms_spec (ws := wsX2_init) B.pre
  have hown : s.vm.findClass RX2 = some m.cls := findClass_of_methodNamed B.named
  have hin : meth.name = "<init>" := (name_of_methodNamed B.named B.method).1
  have i2 : ∀ w ∈ wsX20, w ∈ wsX2_init := fun w h => List.mem_cons_of_mem _ (List.mem_append_right _ h)
  have hk9 := hts (.fieldLink RX2 9 "Inodery$Disk" "numbers" "[I") (by decide +kernel)
  have hk15 := hts (.fieldLink RX2 15 "Inodery$Disk" "bads" "[Z") (by decide +kernel)
  subst hsz
  have hD := hD0.self (sz := s.heap.size)
  generalize hAe : va_A ([(h0, .inr (2, [.null, .null]))] : va_W) s.heap.size = A at hD ⊢
  have hA : ∀ q : Nat, s.heap.size ≤ q → A q := fun q h => by rw [← hAe]; exact Or.inr h
  have hS : va_S A s.heap s.heap [] := va_S.rf
  refine Wq (fun Q hQ => ?_)
  refine W_entry hav (Nat.le_of_ble_eq_true rfl) (fun ls hl => ?_)
  have hl : lv_has ls 1 [(0, .ref h0)] := hl
  unfold f_X2_init at hf
  refine W_heap hP hS (fun H locs hP hS => ?_)
  refine lv_aload_n hx hb dX2_init_0 rfl (lv_at hl 0 rfl) ?_
  refine W.objInit hx hb hown (hts (.methodLink RX2 3 objectInit) (by decide +kernel)) (hts (.instanceMethod objectInit) (by decide +kernel)) (hts (.code objectInit ⟨#[0xb1]⟩ 1 none) (by decide +kernel)) rfl (by rw [hml]; exact hl.1) rfl dX2_init_1 (Nat.le_of_ble_eq_true rfl) (Nat.le_of_ble_eq_true rfl) ?_
  refine W.eq (g2 := F0 m 4 ls []) rfl ?_
  refine lv_aload_n hx hb dX2_init_4 rfl (lv_at hl 0 rfl) ?_
  refine lv_bipush (v := 64) hx hb dX2_init_5 (by decide) ?_
  refine va_newa (atype := .int) (ty := .int) (N' := 64) (a0 := (64, .inl (fun _ => 0))) hx hb (hts (.arrayClass .int) (by decide +kernel)) rfl hK hP hD hS hA (fun _ => rfl) (by decide) (by decide) (Nat.le_of_ble_eq_true rfl) (Nat.le_of_ble_eq_true rfl) (Nat.le_of_ble_eq_true rfl) dX2_init_7 (fun q0 cA H hK1 hP hD hS => ?_)
  have eA : cI = cA := K_I hK hK1
  subst eA
  have hP : va_P D cls ([(h0, .inr (2, [.null, .null])), (q0, .inl (cI, 64, .inl (fun _ => 0)))] : va_W) H := hP
  have hD : va_D A ([(h0, .inr (2, [.null, .null])), (q0, .inl (cI, 64, .inl (fun _ => 0)))] : va_W) := hD
  refine W.cs (cells' := 1) (slots' := 64) rfl rfl ?_
  refine va_putF (D := D) (ci := 2) (v := .ref q0) (ty := .array .int) (C := RX2) (T := TX2) (N := 2) hx hb hts i2 tyX2 tyX2_ok nmX2 hown hK hP hD hS 0 rfl rfl 0 (by decide) hk9 (fun _ h9 => h9) rfl hin rfl (by decide +kernel) rfl rfl (Nat.le_of_ble_eq_true rfl) dX2_init_9 (fun H locs hP hD hS => ?_)
  have hP : va_P D cls ([(h0, .inr (2, [.ref q0, .null])), (q0, .inl (cI, 64, .inl (fun _ => 0)))] : va_W) H := hP
  have hD : va_D A ([(h0, .inr (2, [.ref q0, .null])), (q0, .inl (cI, 64, .inl (fun _ => 0)))] : va_W) := hD
  refine lv_aload_n hx hb dX2_init_12 rfl (lv_at hl 0 rfl) ?_
  refine lv_bipush (v := 64) hx hb dX2_init_13 (by decide) ?_
  refine va_newa (atype := .boolean) (ty := .boolean) (N' := 64) (a0 := (64, .inl (fun _ => 0))) hx hb (hts (.arrayClass .boolean) (by decide +kernel)) rfl hK hP hD hS hA (fun _ => rfl) (by decide) (by decide) (Nat.le_of_ble_eq_true rfl) (Nat.le_of_ble_eq_true rfl) (Nat.le_of_ble_eq_true rfl) dX2_init_15 (fun q1 cA H hK1 hP hD hS => ?_)
  have eA : cZ = cA := K_Z hK hK1
  subst eA
  have hP : va_P D cls ([(h0, .inr (2, [.ref q0, .null])), (q0, .inl (cI, 64, .inl (fun _ => 0))), (q1, .inl (cZ, 64, .inl (fun _ => 0)))] : va_W) H := hP
  have hD : va_D A ([(h0, .inr (2, [.ref q0, .null])), (q0, .inl (cI, 64, .inl (fun _ => 0))), (q1, .inl (cZ, 64, .inl (fun _ => 0)))] : va_W) := hD
  refine W.cs (cells' := 2) (slots' := 128) rfl rfl ?_
  refine va_putF (D := D) (ci := 2) (v := .ref q1) (ty := .array .boolean) (C := RX2) (T := TX2) (N := 2) hx hb hts i2 tyX2 tyX2_ok nmX2 hown hK hP hD hS 0 rfl rfl 1 (by decide) hk15 (fun _ h9 => h9) rfl hin rfl (by decide +kernel) rfl rfl (Nat.le_of_ble_eq_true rfl) dX2_init_17 (fun H locs hP hD hS => ?_)
  have hP : va_P D cls ([(h0, .inr (2, [.ref q0, .ref q1])), (q0, .inl (cI, 64, .inl (fun _ => 0))), (q1, .inl (cZ, 64, .inl (fun _ => 0)))] : va_W) H := hP
  have hD : va_D A ([(h0, .inr (2, [.ref q0, .ref q1])), (q0, .inl (cI, 64, .inl (fun _ => 0))), (q1, .inl (cZ, 64, .inl (fun _ => 0)))] : va_W) := hD
  obtain ⟨a0, ha0⟩ : ∃ a0 : Nat → Nat, a0 = (fun k => [h0, q0, q1].getD k 0) := ⟨_, rfl⟩
  have e0 : a0 0 = h0 := by rw [ha0]; rfl
  have hP : va_P D cls (wX2 cI cZ a0 z0) H := by rw [ha0]; exact hP
  have hD : va_D A (wX2 cI cZ a0 z0) := by rw [ha0]; exact hD
  have hDD : ∀ w : S1, va_D A (wX2 cI cZ a0 w) := fun _ => D_same (w := (wX2 cI cZ a0 z0)) rfl hD
  have hl : lv_has ls 1 [(0, .ref (a0 0))] := by rw [e0]; exact hl
  have eo := Option.some.inj hf
  have hP : va_P D cls (wX2 cI cZ a0 o) H := by rw [← eo]; exact hP
  rw [hQ]
  exact W.vret hx hb hr (fun t ht hW => ⟨⟨(), rfl, trivial, a0, e0, P_at ht hP, hDD _⟩, hS.F ht⟩) hS.2.2 dX2_init_20 hlocks
theorem dX3_init_0 : decode cX3_init 0 = .ok (.aload_n 0, 1) := by decide +kernel
theorem dX3_init_1 : decode cX3_init 1 = .ok (.invokespecial 3, 3) := by decide +kernel
theorem dX3_init_4 : decode cX3_init 4 = .ok (.aload_n 0, 1) := by decide +kernel
theorem dX3_init_5 : decode cX3_init 5 = .ok (.bipush 30, 2) := by decide +kernel
theorem dX3_init_7 : decode cX3_init 7 = .ok (.newarray .int, 2) := by decide +kernel
theorem dX3_init_9 : decode cX3_init 9 = .ok (.putfield 9, 3) := by decide +kernel
theorem dX3_init_12 : decode cX3_init 12 = .ok (.aload_n 0, 1) := by decide +kernel
theorem dX3_init_13 : decode cX3_init 13 = .ok (.bipush 30, 2) := by decide +kernel
theorem dX3_init_15 : decode cX3_init 15 = .ok (.newarray .boolean, 2) := by decide +kernel
theorem dX3_init_17 : decode cX3_init 17 = .ok (.putfield 15, 3) := by decide +kernel
theorem dX3_init_20 : decode cX3_init 20 = .ok (.aload_n 0, 1) := by decide +kernel
theorem dX3_init_21 : decode cX3_init 21 = .ok (.bipush 30, 2) := by decide +kernel
theorem dX3_init_23 : decode cX3_init 23 = .ok (.newarray .boolean, 2) := by decide +kernel
theorem dX3_init_25 : decode cX3_init 25 = .ok (.putfield 19, 3) := by decide +kernel
theorem dX3_init_28 : decode cX3_init 28 = .ok (.aload_n 0, 1) := by decide +kernel
theorem dX3_init_29 : decode cX3_init 29 = .ok (.sipush 480, 3) := by decide +kernel
theorem dX3_init_32 : decode cX3_init 32 = .ok (.newarray .int, 2) := by decide +kernel
theorem dX3_init_34 : decode cX3_init 34 = .ok (.putfield 22, 3) := by decide +kernel
theorem dX3_init_37 : decode cX3_init 37 = .ok (.aload_n 0, 1) := by decide +kernel
theorem dX3_init_38 : decode cX3_init 38 = .ok (.iconst 0, 1) := by decide +kernel
theorem dX3_init_39 : decode cX3_init 39 = .ok (.putfield 25, 3) := by decide +kernel
theorem dX3_init_42 : decode cX3_init 42 = .ok (.return_, 1) := by decide +kernel
def f_X3_init : Option S1 := some z0
def rmX3_init : Room := { frames := 1, cells := 4, slots := 570, locals := 12 }
set_option maxHeartbeats 4000000 in
set_option maxRecDepth 100000 in
theorem c_X3_init (l : Launch) (D : va_G) (cI cZ cJ cT : ClassId) (h0 sz : Nat) (o : S1) (hf : f_X3_init = some o) : Met l yX3_init wsX3_init rmX3_init (va_Pc [.ref h0] (PW D cls (tys cI cZ cJ cT) ([(h0, .inr (3, [.null, .null, .null, .null, .int 0]))] : va_W) sz)) (QC D cls (fun a => wX3 cI cZ a o) h0 (va_A ([(h0, .inr (3, [.null, .null, .null, .null, .int 0]))] : va_W) sz)) 4 570 (va_A ([(h0, .inr (3, [.null, .null, .null, .null, .int 0]))] : va_W) sz) := by
  refine Met.ofW (cc := cX3_init) (maxL := 1) (ret := none) (by decide) rfl ?_
  intro p e s m args below meth c s₁ B hml hv
  obtain ⟨hav, hsz, hP, hK, hD0⟩ := hv
  have hx := B.exec
  have hb := B.bytes
  have hr := B.returns
  have hlocks := B.notSynchronized
  have hts := atoms_spec (ws := wsX3_init) B.pre
  have hown : s.vm.findClass RX3 = some m.cls := findClass_of_methodNamed B.named
  have hin : meth.name = "<init>" := (name_of_methodNamed B.named B.method).1
  have i3 : ∀ w ∈ wsX30, w ∈ wsX3_init := fun w h => List.mem_cons_of_mem _ (List.mem_append_right _ h)
  have hk9 := hts (.fieldLink RX3 9 "Inodery$Handles" "things" "[I") (by decide +kernel)
  have hk15 := hts (.fieldLink RX3 15 "Inodery$Handles" "opens" "[Z") (by decide +kernel)
  have hk19 := hts (.fieldLink RX3 19 "Inodery$Handles" "writers" "[Z") (by decide +kernel)
  have hk22 := hts (.fieldLink RX3 22 "Inodery$Handles" "locks" "[I") (by decide +kernel)
  have hk25 := hts (.fieldLink RX3 25 "Inodery$Handles" "given" "I") (by decide +kernel)
  subst hsz
  have hD := hD0.self (sz := s.heap.size)
  generalize hAe : va_A ([(h0, .inr (3, [.null, .null, .null, .null, .int 0]))] : va_W) s.heap.size = A at hD ⊢
  have hA : ∀ q : Nat, s.heap.size ≤ q → A q := fun q h => by rw [← hAe]; exact Or.inr h
  have hS : va_S A s.heap s.heap [] := va_S.rf
  refine Wq (fun Q hQ => ?_)
  refine W_entry hav (Nat.le_of_ble_eq_true rfl) (fun ls hl => ?_)
  have hl : lv_has ls 1 [(0, .ref h0)] := hl
  unfold f_X3_init at hf
  refine W_heap hP hS (fun H locs hP hS => ?_)
  refine lv_aload_n hx hb dX3_init_0 rfl (lv_at hl 0 rfl) ?_
  refine W.objInit hx hb hown (hts (.methodLink RX3 3 objectInit) (by decide +kernel)) (hts (.instanceMethod objectInit) (by decide +kernel)) (hts (.code objectInit ⟨#[0xb1]⟩ 1 none) (by decide +kernel)) rfl (by rw [hml]; exact hl.1) rfl dX3_init_1 (Nat.le_of_ble_eq_true rfl) (Nat.le_of_ble_eq_true rfl) ?_
  refine W.eq (g2 := F0 m 4 ls []) rfl ?_
  refine lv_aload_n hx hb dX3_init_4 rfl (lv_at hl 0 rfl) ?_
  refine lv_bipush (v := 30) hx hb dX3_init_5 (by decide) ?_
  refine va_newa (atype := .int) (ty := .int) (N' := 30) (a0 := (30, .inl (fun _ => 0))) hx hb (hts (.arrayClass .int) (by decide +kernel)) rfl hK hP hD hS hA (fun _ => rfl) (by decide) (by decide) (Nat.le_of_ble_eq_true rfl) (Nat.le_of_ble_eq_true rfl) (Nat.le_of_ble_eq_true rfl) dX3_init_7 (fun q0 cA H hK1 hP hD hS => ?_)
  have eA : cI = cA := K_I hK hK1
  subst eA
  have hP : va_P D cls ([(h0, .inr (3, [.null, .null, .null, .null, .int 0])), (q0, .inl (cI, 30, .inl (fun _ => 0)))] : va_W) H := hP
  have hD : va_D A ([(h0, .inr (3, [.null, .null, .null, .null, .int 0])), (q0, .inl (cI, 30, .inl (fun _ => 0)))] : va_W) := hD
  refine W.cs (cells' := 1) (slots' := 30) rfl rfl ?_
  refine va_putF (D := D) (ci := 3) (v := .ref q0) (ty := .array .int) (C := RX3) (T := TX3) (N := 5) hx hb hts i3 tyX3 tyX3_ok nmX3 hown hK hP hD hS 0 rfl rfl 0 (by decide) hk9 (fun _ h9 => h9) rfl hin rfl (by decide +kernel) rfl rfl (Nat.le_of_ble_eq_true rfl) dX3_init_9 (fun H locs hP hD hS => ?_)
  have hP : va_P D cls ([(h0, .inr (3, [.ref q0, .null, .null, .null, .int 0])), (q0, .inl (cI, 30, .inl (fun _ => 0)))] : va_W) H := hP
  have hD : va_D A ([(h0, .inr (3, [.ref q0, .null, .null, .null, .int 0])), (q0, .inl (cI, 30, .inl (fun _ => 0)))] : va_W) := hD
  refine lv_aload_n hx hb dX3_init_12 rfl (lv_at hl 0 rfl) ?_
  refine lv_bipush (v := 30) hx hb dX3_init_13 (by decide) ?_
  refine va_newa (atype := .boolean) (ty := .boolean) (N' := 30) (a0 := (30, .inl (fun _ => 0))) hx hb (hts (.arrayClass .boolean) (by decide +kernel)) rfl hK hP hD hS hA (fun _ => rfl) (by decide) (by decide) (Nat.le_of_ble_eq_true rfl) (Nat.le_of_ble_eq_true rfl) (Nat.le_of_ble_eq_true rfl) dX3_init_15 (fun q1 cA H hK1 hP hD hS => ?_)
  have eA : cZ = cA := K_Z hK hK1
  subst eA
  have hP : va_P D cls ([(h0, .inr (3, [.ref q0, .null, .null, .null, .int 0])), (q0, .inl (cI, 30, .inl (fun _ => 0))), (q1, .inl (cZ, 30, .inl (fun _ => 0)))] : va_W) H := hP
  have hD : va_D A ([(h0, .inr (3, [.ref q0, .null, .null, .null, .int 0])), (q0, .inl (cI, 30, .inl (fun _ => 0))), (q1, .inl (cZ, 30, .inl (fun _ => 0)))] : va_W) := hD
  refine W.cs (cells' := 2) (slots' := 60) rfl rfl ?_
  refine va_putF (D := D) (ci := 3) (v := .ref q1) (ty := .array .boolean) (C := RX3) (T := TX3) (N := 5) hx hb hts i3 tyX3 tyX3_ok nmX3 hown hK hP hD hS 0 rfl rfl 1 (by decide) hk15 (fun _ h9 => h9) rfl hin rfl (by decide +kernel) rfl rfl (Nat.le_of_ble_eq_true rfl) dX3_init_17 (fun H locs hP hD hS => ?_)
  have hP : va_P D cls ([(h0, .inr (3, [.ref q0, .ref q1, .null, .null, .int 0])), (q0, .inl (cI, 30, .inl (fun _ => 0))), (q1, .inl (cZ, 30, .inl (fun _ => 0)))] : va_W) H := hP
  have hD : va_D A ([(h0, .inr (3, [.ref q0, .ref q1, .null, .null, .int 0])), (q0, .inl (cI, 30, .inl (fun _ => 0))), (q1, .inl (cZ, 30, .inl (fun _ => 0)))] : va_W) := hD
  refine lv_aload_n hx hb dX3_init_20 rfl (lv_at hl 0 rfl) ?_
  refine lv_bipush (v := 30) hx hb dX3_init_21 (by decide) ?_
  refine va_newa (atype := .boolean) (ty := .boolean) (N' := 30) (a0 := (30, .inl (fun _ => 0))) hx hb (hts (.arrayClass .boolean) (by decide +kernel)) rfl hK hP hD hS hA (fun _ => rfl) (by decide) (by decide) (Nat.le_of_ble_eq_true rfl) (Nat.le_of_ble_eq_true rfl) (Nat.le_of_ble_eq_true rfl) dX3_init_23 (fun q2 cA H hK1 hP hD hS => ?_)
  have eA : cZ = cA := K_Z hK hK1
  subst eA
  have hP : va_P D cls ([(h0, .inr (3, [.ref q0, .ref q1, .null, .null, .int 0])), (q0, .inl (cI, 30, .inl (fun _ => 0))), (q1, .inl (cZ, 30, .inl (fun _ => 0))), (q2, .inl (cZ, 30, .inl (fun _ => 0)))] : va_W) H := hP
  have hD : va_D A ([(h0, .inr (3, [.ref q0, .ref q1, .null, .null, .int 0])), (q0, .inl (cI, 30, .inl (fun _ => 0))), (q1, .inl (cZ, 30, .inl (fun _ => 0))), (q2, .inl (cZ, 30, .inl (fun _ => 0)))] : va_W) := hD
  refine W.cs (cells' := 3) (slots' := 90) rfl rfl ?_
  refine va_putF (D := D) (ci := 3) (v := .ref q2) (ty := .array .boolean) (C := RX3) (T := TX3) (N := 5) hx hb hts i3 tyX3 tyX3_ok nmX3 hown hK hP hD hS 0 rfl rfl 2 (by decide) hk19 (fun _ h9 => h9) rfl hin rfl (by decide +kernel) rfl rfl (Nat.le_of_ble_eq_true rfl) dX3_init_25 (fun H locs hP hD hS => ?_)
  have hP : va_P D cls ([(h0, .inr (3, [.ref q0, .ref q1, .ref q2, .null, .int 0])), (q0, .inl (cI, 30, .inl (fun _ => 0))), (q1, .inl (cZ, 30, .inl (fun _ => 0))), (q2, .inl (cZ, 30, .inl (fun _ => 0)))] : va_W) H := hP
  have hD : va_D A ([(h0, .inr (3, [.ref q0, .ref q1, .ref q2, .null, .int 0])), (q0, .inl (cI, 30, .inl (fun _ => 0))), (q1, .inl (cZ, 30, .inl (fun _ => 0))), (q2, .inl (cZ, 30, .inl (fun _ => 0)))] : va_W) := hD
  refine lv_aload_n hx hb dX3_init_28 rfl (lv_at hl 0 rfl) ?_
  refine lv_sipush (v := 480) hx hb dX3_init_29 (by decide) ?_
  refine va_newa (atype := .int) (ty := .int) (N' := 480) (a0 := (480, .inl (fun _ => 0))) hx hb (hts (.arrayClass .int) (by decide +kernel)) rfl hK hP hD hS hA (fun _ => rfl) (by decide) (by decide) (Nat.le_of_ble_eq_true rfl) (Nat.le_of_ble_eq_true rfl) (Nat.le_of_ble_eq_true rfl) dX3_init_32 (fun q3 cA H hK1 hP hD hS => ?_)
  have eA : cI = cA := K_I hK hK1
  subst eA
  have hP : va_P D cls ([(h0, .inr (3, [.ref q0, .ref q1, .ref q2, .null, .int 0])), (q0, .inl (cI, 30, .inl (fun _ => 0))), (q1, .inl (cZ, 30, .inl (fun _ => 0))), (q2, .inl (cZ, 30, .inl (fun _ => 0))), (q3, .inl (cI, 480, .inl (fun _ => 0)))] : va_W) H := hP
  have hD : va_D A ([(h0, .inr (3, [.ref q0, .ref q1, .ref q2, .null, .int 0])), (q0, .inl (cI, 30, .inl (fun _ => 0))), (q1, .inl (cZ, 30, .inl (fun _ => 0))), (q2, .inl (cZ, 30, .inl (fun _ => 0))), (q3, .inl (cI, 480, .inl (fun _ => 0)))] : va_W) := hD
  refine W.cs (cells' := 4) (slots' := 570) rfl rfl ?_
  refine va_putF (D := D) (ci := 3) (v := .ref q3) (ty := .array .int) (C := RX3) (T := TX3) (N := 5) hx hb hts i3 tyX3 tyX3_ok nmX3 hown hK hP hD hS 0 rfl rfl 3 (by decide) hk22 (fun _ h9 => h9) rfl hin rfl (by decide +kernel) rfl rfl (Nat.le_of_ble_eq_true rfl) dX3_init_34 (fun H locs hP hD hS => ?_)
  have hP : va_P D cls ([(h0, .inr (3, [.ref q0, .ref q1, .ref q2, .ref q3, .int 0])), (q0, .inl (cI, 30, .inl (fun _ => 0))), (q1, .inl (cZ, 30, .inl (fun _ => 0))), (q2, .inl (cZ, 30, .inl (fun _ => 0))), (q3, .inl (cI, 480, .inl (fun _ => 0)))] : va_W) H := hP
  have hD : va_D A ([(h0, .inr (3, [.ref q0, .ref q1, .ref q2, .ref q3, .int 0])), (q0, .inl (cI, 30, .inl (fun _ => 0))), (q1, .inl (cZ, 30, .inl (fun _ => 0))), (q2, .inl (cZ, 30, .inl (fun _ => 0))), (q3, .inl (cI, 480, .inl (fun _ => 0)))] : va_W) := hD
  refine lv_aload_n hx hb dX3_init_37 rfl (lv_at hl 0 rfl) ?_
  refine lv_iconst (v := 0) hx hb dX3_init_38 (by decide) ?_
  refine va_put (D := D) (ci := 3) (v := .int 0) (ty := .int) (C := RX3) (T := TX3) (N := 5) hx hb hts i3 tyX3 tyX3_ok nmX3 hown hK hP hD hS 0 rfl rfl 4 (by decide) hk25 (fun _ h9 => h9) rfl (by decide +kernel) rfl rfl (Nat.le_of_ble_eq_true rfl) dX3_init_39 (fun H locs hP hD hS => ?_)
  have hP : va_P D cls ([(h0, .inr (3, [.ref q0, .ref q1, .ref q2, .ref q3, .int 0])), (q0, .inl (cI, 30, .inl (fun _ => 0))), (q1, .inl (cZ, 30, .inl (fun _ => 0))), (q2, .inl (cZ, 30, .inl (fun _ => 0))), (q3, .inl (cI, 480, .inl (fun _ => 0)))] : va_W) H := hP
  have hD : va_D A ([(h0, .inr (3, [.ref q0, .ref q1, .ref q2, .ref q3, .int 0])), (q0, .inl (cI, 30, .inl (fun _ => 0))), (q1, .inl (cZ, 30, .inl (fun _ => 0))), (q2, .inl (cZ, 30, .inl (fun _ => 0))), (q3, .inl (cI, 480, .inl (fun _ => 0)))] : va_W) := hD
  obtain ⟨a0, ha0⟩ : ∃ a0 : Nat → Nat, a0 = (fun k => [h0, q0, q1, q2, q3, h0].getD k 0) := ⟨_, rfl⟩
  have e0 : a0 0 = h0 := by rw [ha0]; rfl
  have hP : va_P D cls (wX3 cI cZ a0 z0) H := by rw [ha0]; exact hP
  have hD : va_D A (wX3 cI cZ a0 z0) := by rw [ha0]; exact hD
  have hDD : ∀ w : S1, va_D A (wX3 cI cZ a0 w) := fun _ => D_same (w := (wX3 cI cZ a0 z0)) rfl hD
  have hl : lv_has ls 1 [(0, .ref (a0 0))] := by rw [e0]; exact hl
  have eo := Option.some.inj hf
  have hP : va_P D cls (wX3 cI cZ a0 o) H := by rw [← eo]; exact hP
  rw [hQ]
  exact W.vret hx hb hr (fun t ht hW => ⟨⟨(), rfl, trivial, a0, e0, P_at ht hP, hDD _⟩, hS.F ht⟩) hS.2.2 dX3_init_42 hlocks
theorem dX4_init_0 : decode cX4_init 0 = .ok (.aload_n 0, 1) := by decide +kernel
theorem dX4_init_1 : decode cX4_init 1 = .ok (.invokespecial 3, 3) := by decide +kernel
theorem dX4_init_4 : decode cX4_init 4 = .ok (.aload_n 0, 1) := by decide +kernel
theorem dX4_init_5 : decode cX4_init 5 = .ok (.bipush 32, 2) := by decide +kernel
theorem dX4_init_7 : decode cX4_init 7 = .ok (.newarray .int, 2) := by decide +kernel
theorem dX4_init_9 : decode cX4_init 9 = .ok (.putfield 9, 3) := by decide +kernel
theorem dX4_init_12 : decode cX4_init 12 = .ok (.aload_n 0, 1) := by decide +kernel
theorem dX4_init_13 : decode cX4_init 13 = .ok (.bipush 32, 2) := by decide +kernel
theorem dX4_init_15 : decode cX4_init 15 = .ok (.newarray .int, 2) := by decide +kernel
theorem dX4_init_17 : decode cX4_init 17 = .ok (.putfield 15, 3) := by decide +kernel
theorem dX4_init_20 : decode cX4_init 20 = .ok (.aload_n 0, 1) := by decide +kernel
theorem dX4_init_21 : decode cX4_init 21 = .ok (.bipush 32, 2) := by decide +kernel
theorem dX4_init_23 : decode cX4_init 23 = .ok (.newarray .int, 2) := by decide +kernel
theorem dX4_init_25 : decode cX4_init 25 = .ok (.putfield 18, 3) := by decide +kernel
theorem dX4_init_28 : decode cX4_init 28 = .ok (.aload_n 0, 1) := by decide +kernel
theorem dX4_init_29 : decode cX4_init 29 = .ok (.bipush 32, 2) := by decide +kernel
theorem dX4_init_31 : decode cX4_init 31 = .ok (.newarray .int, 2) := by decide +kernel
theorem dX4_init_33 : decode cX4_init 33 = .ok (.putfield 21, 3) := by decide +kernel
theorem dX4_init_36 : decode cX4_init 36 = .ok (.aload_n 0, 1) := by decide +kernel
theorem dX4_init_37 : decode cX4_init 37 = .ok (.bipush 32, 2) := by decide +kernel
theorem dX4_init_39 : decode cX4_init 39 = .ok (.newarray .int, 2) := by decide +kernel
theorem dX4_init_41 : decode cX4_init 41 = .ok (.putfield 24, 3) := by decide +kernel
theorem dX4_init_44 : decode cX4_init 44 = .ok (.aload_n 0, 1) := by decide +kernel
theorem dX4_init_45 : decode cX4_init 45 = .ok (.bipush 32, 2) := by decide +kernel
theorem dX4_init_47 : decode cX4_init 47 = .ok (.newarray .int, 2) := by decide +kernel
theorem dX4_init_49 : decode cX4_init 49 = .ok (.putfield 27, 3) := by decide +kernel
theorem dX4_init_52 : decode cX4_init 52 = .ok (.aload_n 0, 1) := by decide +kernel
theorem dX4_init_53 : decode cX4_init 53 = .ok (.sipush 256, 3) := by decide +kernel
theorem dX4_init_56 : decode cX4_init 56 = .ok (.newarray .int, 2) := by decide +kernel
theorem dX4_init_58 : decode cX4_init 58 = .ok (.putfield 30, 3) := by decide +kernel
theorem dX4_init_61 : decode cX4_init 61 = .ok (.aload_n 0, 1) := by decide +kernel
theorem dX4_init_62 : decode cX4_init 62 = .ok (.sipush 256, 3) := by decide +kernel
theorem dX4_init_65 : decode cX4_init 65 = .ok (.newarray .int, 2) := by decide +kernel
theorem dX4_init_67 : decode cX4_init 67 = .ok (.putfield 33, 3) := by decide +kernel
theorem dX4_init_70 : decode cX4_init 70 = .ok (.aload_n 0, 1) := by decide +kernel
theorem dX4_init_71 : decode cX4_init 71 = .ok (.sipush 512, 3) := by decide +kernel
theorem dX4_init_74 : decode cX4_init 74 = .ok (.newarray .int, 2) := by decide +kernel
theorem dX4_init_76 : decode cX4_init 76 = .ok (.putfield 36, 3) := by decide +kernel
theorem dX4_init_79 : decode cX4_init 79 = .ok (.aload_n 0, 1) := by decide +kernel
theorem dX4_init_80 : decode cX4_init 80 = .ok (.sipush 512, 3) := by decide +kernel
theorem dX4_init_83 : decode cX4_init 83 = .ok (.newarray .int, 2) := by decide +kernel
theorem dX4_init_85 : decode cX4_init 85 = .ok (.putfield 39, 3) := by decide +kernel
theorem dX4_init_88 : decode cX4_init 88 = .ok (.aload_n 0, 1) := by decide +kernel
theorem dX4_init_89 : decode cX4_init 89 = .ok (.bipush 32, 2) := by decide +kernel
theorem dX4_init_91 : decode cX4_init 91 = .ok (.newarray .int, 2) := by decide +kernel
theorem dX4_init_93 : decode cX4_init 93 = .ok (.putfield 42, 3) := by decide +kernel
theorem dX4_init_96 : decode cX4_init 96 = .ok (.aload_n 0, 1) := by decide +kernel
theorem dX4_init_97 : decode cX4_init 97 = .ok (.bipush 64, 2) := by decide +kernel
theorem dX4_init_99 : decode cX4_init 99 = .ok (.newarray .int, 2) := by decide +kernel
theorem dX4_init_101 : decode cX4_init 101 = .ok (.putfield 45, 3) := by decide +kernel
theorem dX4_init_104 : decode cX4_init 104 = .ok (.iconst 0, 1) := by decide +kernel
theorem dX4_init_105 : decode cX4_init 105 = .ok (.istore_n 1, 1) := by decide +kernel
theorem dX4_init_106 : decode cX4_init 106 = .ok (.iload_n 1, 1) := by decide +kernel
theorem dX4_init_107 : decode cX4_init 107 = .ok (.bipush 32, 2) := by decide +kernel
theorem dX4_init_109 : decode cX4_init 109 = .ok (.if_icmp .ge 16, 3) := by decide +kernel
theorem dX4_init_112 : decode cX4_init 112 = .ok (.aload_n 0, 1) := by decide +kernel
theorem dX4_init_113 : decode cX4_init 113 = .ok (.getfield 9, 3) := by decide +kernel
theorem dX4_init_116 : decode cX4_init 116 = .ok (.iload_n 1, 1) := by decide +kernel
theorem dX4_init_117 : decode cX4_init 117 = .ok (.iconst (-1), 1) := by decide +kernel
theorem dX4_init_118 : decode cX4_init 118 = .ok (.iastore, 1) := by decide +kernel
theorem dX4_init_119 : decode cX4_init 119 = .ok (.iinc 1 1, 3) := by decide +kernel
theorem dX4_init_122 : decode cX4_init 122 = .ok (.goto (-16), 3) := by decide +kernel
theorem dX4_init_125 : decode cX4_init 125 = .ok (.iconst 0, 1) := by decide +kernel
theorem dX4_init_126 : decode cX4_init 126 = .ok (.istore_n 1, 1) := by decide +kernel
theorem dX4_init_127 : decode cX4_init 127 = .ok (.iload_n 1, 1) := by decide +kernel
theorem dX4_init_128 : decode cX4_init 128 = .ok (.sipush 512, 3) := by decide +kernel
theorem dX4_init_131 : decode cX4_init 131 = .ok (.if_icmp .ge 16, 3) := by decide +kernel
theorem dX4_init_134 : decode cX4_init 134 = .ok (.aload_n 0, 1) := by decide +kernel
theorem dX4_init_135 : decode cX4_init 135 = .ok (.getfield 39, 3) := by decide +kernel
theorem dX4_init_138 : decode cX4_init 138 = .ok (.iload_n 1, 1) := by decide +kernel
theorem dX4_init_139 : decode cX4_init 139 = .ok (.iconst (-1), 1) := by decide +kernel
theorem dX4_init_140 : decode cX4_init 140 = .ok (.iastore, 1) := by decide +kernel
theorem dX4_init_141 : decode cX4_init 141 = .ok (.iinc 1 1, 3) := by decide +kernel
theorem dX4_init_144 : decode cX4_init 144 = .ok (.goto (-17), 3) := by decide +kernel
theorem dX4_init_147 : decode cX4_init 147 = .ok (.aload_n 0, 1) := by decide +kernel
theorem dX4_init_148 : decode cX4_init 148 = .ok (.getfield 9, 3) := by decide +kernel
theorem dX4_init_151 : decode cX4_init 151 = .ok (.iconst 0, 1) := by decide +kernel
theorem dX4_init_152 : decode cX4_init 152 = .ok (.iconst 1, 1) := by decide +kernel
theorem dX4_init_153 : decode cX4_init 153 = .ok (.iastore, 1) := by decide +kernel
theorem dX4_init_154 : decode cX4_init 154 = .ok (.aload_n 0, 1) := by decide +kernel
theorem dX4_init_155 : decode cX4_init 155 = .ok (.getfield 18, 3) := by decide +kernel
theorem dX4_init_158 : decode cX4_init 158 = .ok (.iconst 0, 1) := by decide +kernel
theorem dX4_init_159 : decode cX4_init 159 = .ok (.bipush 15, 2) := by decide +kernel
theorem dX4_init_161 : decode cX4_init 161 = .ok (.iastore, 1) := by decide +kernel
theorem dX4_init_162 : decode cX4_init 162 = .ok (.return_, 1) := by decide +kernel
def f_X4_init : Option S1 := qj2 (fun (r106_1 : Int32 → S1 → Option (S1)) (y106_1_1 : Int32) (u106_1_0 : S1) => if 32 ≤ y106_1_1 then qj2 (fun (r127_3 : Int32 → S1 → Option (S1)) (y127_3_1 : Int32) (u127_3_0 : S1) => if 512 ≤ y127_3_1 then chk (inb 0 32) (bv (st u127_3_0 0 0 1) (fun u_5 => chk (inb 0 32) (bv (st u_5 2 0 15) (fun u_6 => some u_6)))) else chk (inb y127_3_1 512) (bv (st u127_3_0 9 y127_3_1 (-1)) (fun u_7 => r127_3 (y127_3_1 + 1) u_7))) (fun k127_3 => k127_3 0 u106_1_0) else chk (inb y106_1_1 32) (bv (st u106_1_0 0 y106_1_1 (-1)) (fun u_8 => r106_1 (y106_1_1 + 1) u_8))) (fun k106_1 => k106_1 0 z0)
def rmX4_init : Room := { frames := 1, cells := 12, slots := 1824, locals := 12 }
set_option maxHeartbeats 4000000 in
set_option maxRecDepth 100000 in
theorem c_X4_init (l : Launch) (D : va_G) (cI cZ cJ cT : ClassId) (h0 sz : Nat) (o : S1) (hf : f_X4_init = some o) : Met l yX4_init wsX4_init rmX4_init (va_Pc [.ref h0] (PW D cls (tys cI cZ cJ cT) ([(h0, .inr (4, [.null, .null, .null, .null, .null, .null, .null, .null, .null, .null, .null, .null]))] : va_W) sz)) (QC D cls (fun a => wX4 cI cZ a o) h0 (va_A ([(h0, .inr (4, [.null, .null, .null, .null, .null, .null, .null, .null, .null, .null, .null, .null]))] : va_W) sz)) 12 1824 (va_A ([(h0, .inr (4, [.null, .null, .null, .null, .null, .null, .null, .null, .null, .null, .null, .null]))] : va_W) sz) := by
  refine Met.ofW (cc := cX4_init) (maxL := 2) (ret := none) (by decide) rfl ?_
  intro p e s m args below meth c s₁ B hml hv
  obtain ⟨hav, hsz, hP, hK, hD0⟩ := hv
  have hx := B.exec
  have hb := B.bytes
  have hr := B.returns
  have hlocks := B.notSynchronized
  have hts := atoms_spec (ws := wsX4_init) B.pre
  have hown : s.vm.findClass RX4 = some m.cls := findClass_of_methodNamed B.named
  have hin : meth.name = "<init>" := (name_of_methodNamed B.named B.method).1
  have i4 : ∀ w ∈ wsX40, w ∈ wsX4_init := fun w h => List.mem_cons_of_mem _ (List.mem_append_right _ h)
  have hk9 := hts (.fieldLink RX4 9 "Inodery$Tree" "kinds" "[I") (by decide +kernel)
  have hk15 := hts (.fieldLink RX4 15 "Inodery$Tree" "owners" "[I") (by decide +kernel)
  have hk18 := hts (.fieldLink RX4 18 "Inodery$Tree" "rights" "[I") (by decide +kernel)
  have hk21 := hts (.fieldLink RX4 21 "Inodery$Tree" "counts" "[I") (by decide +kernel)
  have hk24 := hts (.fieldLink RX4 24 "Inodery$Tree" "paths" "[I") (by decide +kernel)
  have hk27 := hts (.fieldLink RX4 27 "Inodery$Tree" "sizes" "[I") (by decide +kernel)
  have hk30 := hts (.fieldLink RX4 30 "Inodery$Tree" "entryNames" "[I") (by decide +kernel)
  have hk33 := hts (.fieldLink RX4 33 "Inodery$Tree" "entryThings" "[I") (by decide +kernel)
  have hk36 := hts (.fieldLink RX4 36 "Inodery$Tree" "pageKinds" "[I") (by decide +kernel)
  have hk39 := hts (.fieldLink RX4 39 "Inodery$Tree" "pageBlocks" "[I") (by decide +kernel)
  have hk42 := hts (.fieldLink RX4 42 "Inodery$Tree" "filled" "[I") (by decide +kernel)
  have hk45 := hts (.fieldLink RX4 45 "Inodery$Tree" "uses" "[I") (by decide +kernel)
  subst hsz
  have hD := hD0.self (sz := s.heap.size)
  generalize hAe : va_A ([(h0, .inr (4, [.null, .null, .null, .null, .null, .null, .null, .null, .null, .null, .null, .null]))] : va_W) s.heap.size = A at hD ⊢
  have hA : ∀ q : Nat, s.heap.size ≤ q → A q := fun q h => by rw [← hAe]; exact Or.inr h
  have hS : va_S A s.heap s.heap [] := va_S.rf
  refine Wq (fun Q hQ => ?_)
  refine W_entry hav (Nat.le_of_ble_eq_true rfl) (fun ls hl => ?_)
  have hl : lv_has ls 2 [(0, .ref h0)] := hl
  unfold f_X4_init at hf
  refine W_heap hP hS (fun H locs hP hS => ?_)
  refine lv_aload_n hx hb dX4_init_0 rfl (lv_at hl 0 rfl) ?_
  refine W.objInit hx hb hown (hts (.methodLink RX4 3 objectInit) (by decide +kernel)) (hts (.instanceMethod objectInit) (by decide +kernel)) (hts (.code objectInit ⟨#[0xb1]⟩ 1 none) (by decide +kernel)) rfl (by rw [hml]; exact hl.1) rfl dX4_init_1 (Nat.le_of_ble_eq_true rfl) (Nat.le_of_ble_eq_true rfl) ?_
  refine W.eq (g2 := F0 m 4 ls []) rfl ?_
  refine lv_aload_n hx hb dX4_init_4 rfl (lv_at hl 0 rfl) ?_
  refine lv_bipush (v := 32) hx hb dX4_init_5 (by decide) ?_
  refine va_newa (atype := .int) (ty := .int) (N' := 32) (a0 := (32, .inl (fun _ => 0))) hx hb (hts (.arrayClass .int) (by decide +kernel)) rfl hK hP hD hS hA (fun _ => rfl) (by decide) (by decide) (Nat.le_of_ble_eq_true rfl) (Nat.le_of_ble_eq_true rfl) (Nat.le_of_ble_eq_true rfl) dX4_init_7 (fun q0 cA H hK1 hP hD hS => ?_)
  have eA : cI = cA := K_I hK hK1
  subst eA
  have hP : va_P D cls ([(h0, .inr (4, [.null, .null, .null, .null, .null, .null, .null, .null, .null, .null, .null, .null])), (q0, .inl (cI, 32, .inl (fun _ => 0)))] : va_W) H := hP
  have hD : va_D A ([(h0, .inr (4, [.null, .null, .null, .null, .null, .null, .null, .null, .null, .null, .null, .null])), (q0, .inl (cI, 32, .inl (fun _ => 0)))] : va_W) := hD
  refine W.cs (cells' := 1) (slots' := 32) rfl rfl ?_
  refine va_putF (D := D) (ci := 4) (v := .ref q0) (ty := .array .int) (C := RX4) (T := TX4) (N := 12) hx hb hts i4 tyX4 tyX4_ok nmX4 hown hK hP hD hS 0 rfl rfl 0 (by decide) hk9 (fun _ h9 => h9) rfl hin rfl (by decide +kernel) rfl rfl (Nat.le_of_ble_eq_true rfl) dX4_init_9 (fun H locs hP hD hS => ?_)
  have hP : va_P D cls ([(h0, .inr (4, [.ref q0, .null, .null, .null, .null, .null, .null, .null, .null, .null, .null, .null])), (q0, .inl (cI, 32, .inl (fun _ => 0)))] : va_W) H := hP
  have hD : va_D A ([(h0, .inr (4, [.ref q0, .null, .null, .null, .null, .null, .null, .null, .null, .null, .null, .null])), (q0, .inl (cI, 32, .inl (fun _ => 0)))] : va_W) := hD
  refine lv_aload_n hx hb dX4_init_12 rfl (lv_at hl 0 rfl) ?_
  refine lv_bipush (v := 32) hx hb dX4_init_13 (by decide) ?_
  refine va_newa (atype := .int) (ty := .int) (N' := 32) (a0 := (32, .inl (fun _ => 0))) hx hb (hts (.arrayClass .int) (by decide +kernel)) rfl hK hP hD hS hA (fun _ => rfl) (by decide) (by decide) (Nat.le_of_ble_eq_true rfl) (Nat.le_of_ble_eq_true rfl) (Nat.le_of_ble_eq_true rfl) dX4_init_15 (fun q1 cA H hK1 hP hD hS => ?_)
  have eA : cI = cA := K_I hK hK1
  subst eA
  have hP : va_P D cls ([(h0, .inr (4, [.ref q0, .null, .null, .null, .null, .null, .null, .null, .null, .null, .null, .null])), (q0, .inl (cI, 32, .inl (fun _ => 0))), (q1, .inl (cI, 32, .inl (fun _ => 0)))] : va_W) H := hP
  have hD : va_D A ([(h0, .inr (4, [.ref q0, .null, .null, .null, .null, .null, .null, .null, .null, .null, .null, .null])), (q0, .inl (cI, 32, .inl (fun _ => 0))), (q1, .inl (cI, 32, .inl (fun _ => 0)))] : va_W) := hD
  refine W.cs (cells' := 2) (slots' := 64) rfl rfl ?_
  refine va_putF (D := D) (ci := 4) (v := .ref q1) (ty := .array .int) (C := RX4) (T := TX4) (N := 12) hx hb hts i4 tyX4 tyX4_ok nmX4 hown hK hP hD hS 0 rfl rfl 1 (by decide) hk15 (fun _ h9 => h9) rfl hin rfl (by decide +kernel) rfl rfl (Nat.le_of_ble_eq_true rfl) dX4_init_17 (fun H locs hP hD hS => ?_)
  have hP : va_P D cls ([(h0, .inr (4, [.ref q0, .ref q1, .null, .null, .null, .null, .null, .null, .null, .null, .null, .null])), (q0, .inl (cI, 32, .inl (fun _ => 0))), (q1, .inl (cI, 32, .inl (fun _ => 0)))] : va_W) H := hP
  have hD : va_D A ([(h0, .inr (4, [.ref q0, .ref q1, .null, .null, .null, .null, .null, .null, .null, .null, .null, .null])), (q0, .inl (cI, 32, .inl (fun _ => 0))), (q1, .inl (cI, 32, .inl (fun _ => 0)))] : va_W) := hD
  refine lv_aload_n hx hb dX4_init_20 rfl (lv_at hl 0 rfl) ?_
  refine lv_bipush (v := 32) hx hb dX4_init_21 (by decide) ?_
  refine va_newa (atype := .int) (ty := .int) (N' := 32) (a0 := (32, .inl (fun _ => 0))) hx hb (hts (.arrayClass .int) (by decide +kernel)) rfl hK hP hD hS hA (fun _ => rfl) (by decide) (by decide) (Nat.le_of_ble_eq_true rfl) (Nat.le_of_ble_eq_true rfl) (Nat.le_of_ble_eq_true rfl) dX4_init_23 (fun q2 cA H hK1 hP hD hS => ?_)
  have eA : cI = cA := K_I hK hK1
  subst eA
  have hP : va_P D cls ([(h0, .inr (4, [.ref q0, .ref q1, .null, .null, .null, .null, .null, .null, .null, .null, .null, .null])), (q0, .inl (cI, 32, .inl (fun _ => 0))), (q1, .inl (cI, 32, .inl (fun _ => 0))), (q2, .inl (cI, 32, .inl (fun _ => 0)))] : va_W) H := hP
  have hD : va_D A ([(h0, .inr (4, [.ref q0, .ref q1, .null, .null, .null, .null, .null, .null, .null, .null, .null, .null])), (q0, .inl (cI, 32, .inl (fun _ => 0))), (q1, .inl (cI, 32, .inl (fun _ => 0))), (q2, .inl (cI, 32, .inl (fun _ => 0)))] : va_W) := hD
  refine W.cs (cells' := 3) (slots' := 96) rfl rfl ?_
  refine va_putF (D := D) (ci := 4) (v := .ref q2) (ty := .array .int) (C := RX4) (T := TX4) (N := 12) hx hb hts i4 tyX4 tyX4_ok nmX4 hown hK hP hD hS 0 rfl rfl 2 (by decide) hk18 (fun _ h9 => h9) rfl hin rfl (by decide +kernel) rfl rfl (Nat.le_of_ble_eq_true rfl) dX4_init_25 (fun H locs hP hD hS => ?_)
  have hP : va_P D cls ([(h0, .inr (4, [.ref q0, .ref q1, .ref q2, .null, .null, .null, .null, .null, .null, .null, .null, .null])), (q0, .inl (cI, 32, .inl (fun _ => 0))), (q1, .inl (cI, 32, .inl (fun _ => 0))), (q2, .inl (cI, 32, .inl (fun _ => 0)))] : va_W) H := hP
  have hD : va_D A ([(h0, .inr (4, [.ref q0, .ref q1, .ref q2, .null, .null, .null, .null, .null, .null, .null, .null, .null])), (q0, .inl (cI, 32, .inl (fun _ => 0))), (q1, .inl (cI, 32, .inl (fun _ => 0))), (q2, .inl (cI, 32, .inl (fun _ => 0)))] : va_W) := hD
  refine lv_aload_n hx hb dX4_init_28 rfl (lv_at hl 0 rfl) ?_
  refine lv_bipush (v := 32) hx hb dX4_init_29 (by decide) ?_
  refine va_newa (atype := .int) (ty := .int) (N' := 32) (a0 := (32, .inl (fun _ => 0))) hx hb (hts (.arrayClass .int) (by decide +kernel)) rfl hK hP hD hS hA (fun _ => rfl) (by decide) (by decide) (Nat.le_of_ble_eq_true rfl) (Nat.le_of_ble_eq_true rfl) (Nat.le_of_ble_eq_true rfl) dX4_init_31 (fun q3 cA H hK1 hP hD hS => ?_)
  have eA : cI = cA := K_I hK hK1
  subst eA
  have hP : va_P D cls ([(h0, .inr (4, [.ref q0, .ref q1, .ref q2, .null, .null, .null, .null, .null, .null, .null, .null, .null])), (q0, .inl (cI, 32, .inl (fun _ => 0))), (q1, .inl (cI, 32, .inl (fun _ => 0))), (q2, .inl (cI, 32, .inl (fun _ => 0))), (q3, .inl (cI, 32, .inl (fun _ => 0)))] : va_W) H := hP
  have hD : va_D A ([(h0, .inr (4, [.ref q0, .ref q1, .ref q2, .null, .null, .null, .null, .null, .null, .null, .null, .null])), (q0, .inl (cI, 32, .inl (fun _ => 0))), (q1, .inl (cI, 32, .inl (fun _ => 0))), (q2, .inl (cI, 32, .inl (fun _ => 0))), (q3, .inl (cI, 32, .inl (fun _ => 0)))] : va_W) := hD
  refine W.cs (cells' := 4) (slots' := 128) rfl rfl ?_
  refine va_putF (D := D) (ci := 4) (v := .ref q3) (ty := .array .int) (C := RX4) (T := TX4) (N := 12) hx hb hts i4 tyX4 tyX4_ok nmX4 hown hK hP hD hS 0 rfl rfl 3 (by decide) hk21 (fun _ h9 => h9) rfl hin rfl (by decide +kernel) rfl rfl (Nat.le_of_ble_eq_true rfl) dX4_init_33 (fun H locs hP hD hS => ?_)
  have hP : va_P D cls ([(h0, .inr (4, [.ref q0, .ref q1, .ref q2, .ref q3, .null, .null, .null, .null, .null, .null, .null, .null])), (q0, .inl (cI, 32, .inl (fun _ => 0))), (q1, .inl (cI, 32, .inl (fun _ => 0))), (q2, .inl (cI, 32, .inl (fun _ => 0))), (q3, .inl (cI, 32, .inl (fun _ => 0)))] : va_W) H := hP
  have hD : va_D A ([(h0, .inr (4, [.ref q0, .ref q1, .ref q2, .ref q3, .null, .null, .null, .null, .null, .null, .null, .null])), (q0, .inl (cI, 32, .inl (fun _ => 0))), (q1, .inl (cI, 32, .inl (fun _ => 0))), (q2, .inl (cI, 32, .inl (fun _ => 0))), (q3, .inl (cI, 32, .inl (fun _ => 0)))] : va_W) := hD
  refine lv_aload_n hx hb dX4_init_36 rfl (lv_at hl 0 rfl) ?_
  refine lv_bipush (v := 32) hx hb dX4_init_37 (by decide) ?_
  refine va_newa (atype := .int) (ty := .int) (N' := 32) (a0 := (32, .inl (fun _ => 0))) hx hb (hts (.arrayClass .int) (by decide +kernel)) rfl hK hP hD hS hA (fun _ => rfl) (by decide) (by decide) (Nat.le_of_ble_eq_true rfl) (Nat.le_of_ble_eq_true rfl) (Nat.le_of_ble_eq_true rfl) dX4_init_39 (fun q4 cA H hK1 hP hD hS => ?_)
  have eA : cI = cA := K_I hK hK1
  subst eA
  have hP : va_P D cls ([(h0, .inr (4, [.ref q0, .ref q1, .ref q2, .ref q3, .null, .null, .null, .null, .null, .null, .null, .null])), (q0, .inl (cI, 32, .inl (fun _ => 0))), (q1, .inl (cI, 32, .inl (fun _ => 0))), (q2, .inl (cI, 32, .inl (fun _ => 0))), (q3, .inl (cI, 32, .inl (fun _ => 0))), (q4, .inl (cI, 32, .inl (fun _ => 0)))] : va_W) H := hP
  have hD : va_D A ([(h0, .inr (4, [.ref q0, .ref q1, .ref q2, .ref q3, .null, .null, .null, .null, .null, .null, .null, .null])), (q0, .inl (cI, 32, .inl (fun _ => 0))), (q1, .inl (cI, 32, .inl (fun _ => 0))), (q2, .inl (cI, 32, .inl (fun _ => 0))), (q3, .inl (cI, 32, .inl (fun _ => 0))), (q4, .inl (cI, 32, .inl (fun _ => 0)))] : va_W) := hD
  refine W.cs (cells' := 5) (slots' := 160) rfl rfl ?_
  refine va_putF (D := D) (ci := 4) (v := .ref q4) (ty := .array .int) (C := RX4) (T := TX4) (N := 12) hx hb hts i4 tyX4 tyX4_ok nmX4 hown hK hP hD hS 0 rfl rfl 4 (by decide) hk24 (fun _ h9 => h9) rfl hin rfl (by decide +kernel) rfl rfl (Nat.le_of_ble_eq_true rfl) dX4_init_41 (fun H locs hP hD hS => ?_)
  have hP : va_P D cls ([(h0, .inr (4, [.ref q0, .ref q1, .ref q2, .ref q3, .ref q4, .null, .null, .null, .null, .null, .null, .null])), (q0, .inl (cI, 32, .inl (fun _ => 0))), (q1, .inl (cI, 32, .inl (fun _ => 0))), (q2, .inl (cI, 32, .inl (fun _ => 0))), (q3, .inl (cI, 32, .inl (fun _ => 0))), (q4, .inl (cI, 32, .inl (fun _ => 0)))] : va_W) H := hP
  have hD : va_D A ([(h0, .inr (4, [.ref q0, .ref q1, .ref q2, .ref q3, .ref q4, .null, .null, .null, .null, .null, .null, .null])), (q0, .inl (cI, 32, .inl (fun _ => 0))), (q1, .inl (cI, 32, .inl (fun _ => 0))), (q2, .inl (cI, 32, .inl (fun _ => 0))), (q3, .inl (cI, 32, .inl (fun _ => 0))), (q4, .inl (cI, 32, .inl (fun _ => 0)))] : va_W) := hD
  refine lv_aload_n hx hb dX4_init_44 rfl (lv_at hl 0 rfl) ?_
  refine lv_bipush (v := 32) hx hb dX4_init_45 (by decide) ?_
  refine va_newa (atype := .int) (ty := .int) (N' := 32) (a0 := (32, .inl (fun _ => 0))) hx hb (hts (.arrayClass .int) (by decide +kernel)) rfl hK hP hD hS hA (fun _ => rfl) (by decide) (by decide) (Nat.le_of_ble_eq_true rfl) (Nat.le_of_ble_eq_true rfl) (Nat.le_of_ble_eq_true rfl) dX4_init_47 (fun q5 cA H hK1 hP hD hS => ?_)
  have eA : cI = cA := K_I hK hK1
  subst eA
  have hP : va_P D cls ([(h0, .inr (4, [.ref q0, .ref q1, .ref q2, .ref q3, .ref q4, .null, .null, .null, .null, .null, .null, .null])), (q0, .inl (cI, 32, .inl (fun _ => 0))), (q1, .inl (cI, 32, .inl (fun _ => 0))), (q2, .inl (cI, 32, .inl (fun _ => 0))), (q3, .inl (cI, 32, .inl (fun _ => 0))), (q4, .inl (cI, 32, .inl (fun _ => 0))), (q5, .inl (cI, 32, .inl (fun _ => 0)))] : va_W) H := hP
  have hD : va_D A ([(h0, .inr (4, [.ref q0, .ref q1, .ref q2, .ref q3, .ref q4, .null, .null, .null, .null, .null, .null, .null])), (q0, .inl (cI, 32, .inl (fun _ => 0))), (q1, .inl (cI, 32, .inl (fun _ => 0))), (q2, .inl (cI, 32, .inl (fun _ => 0))), (q3, .inl (cI, 32, .inl (fun _ => 0))), (q4, .inl (cI, 32, .inl (fun _ => 0))), (q5, .inl (cI, 32, .inl (fun _ => 0)))] : va_W) := hD
  refine W.cs (cells' := 6) (slots' := 192) rfl rfl ?_
  refine va_putF (D := D) (ci := 4) (v := .ref q5) (ty := .array .int) (C := RX4) (T := TX4) (N := 12) hx hb hts i4 tyX4 tyX4_ok nmX4 hown hK hP hD hS 0 rfl rfl 5 (by decide) hk27 (fun _ h9 => h9) rfl hin rfl (by decide +kernel) rfl rfl (Nat.le_of_ble_eq_true rfl) dX4_init_49 (fun H locs hP hD hS => ?_)
  have hP : va_P D cls ([(h0, .inr (4, [.ref q0, .ref q1, .ref q2, .ref q3, .ref q4, .ref q5, .null, .null, .null, .null, .null, .null])), (q0, .inl (cI, 32, .inl (fun _ => 0))), (q1, .inl (cI, 32, .inl (fun _ => 0))), (q2, .inl (cI, 32, .inl (fun _ => 0))), (q3, .inl (cI, 32, .inl (fun _ => 0))), (q4, .inl (cI, 32, .inl (fun _ => 0))), (q5, .inl (cI, 32, .inl (fun _ => 0)))] : va_W) H := hP
  have hD : va_D A ([(h0, .inr (4, [.ref q0, .ref q1, .ref q2, .ref q3, .ref q4, .ref q5, .null, .null, .null, .null, .null, .null])), (q0, .inl (cI, 32, .inl (fun _ => 0))), (q1, .inl (cI, 32, .inl (fun _ => 0))), (q2, .inl (cI, 32, .inl (fun _ => 0))), (q3, .inl (cI, 32, .inl (fun _ => 0))), (q4, .inl (cI, 32, .inl (fun _ => 0))), (q5, .inl (cI, 32, .inl (fun _ => 0)))] : va_W) := hD
  refine lv_aload_n hx hb dX4_init_52 rfl (lv_at hl 0 rfl) ?_
  refine lv_sipush (v := 256) hx hb dX4_init_53 (by decide) ?_
  refine va_newa (atype := .int) (ty := .int) (N' := 256) (a0 := (256, .inl (fun _ => 0))) hx hb (hts (.arrayClass .int) (by decide +kernel)) rfl hK hP hD hS hA (fun _ => rfl) (by decide) (by decide) (Nat.le_of_ble_eq_true rfl) (Nat.le_of_ble_eq_true rfl) (Nat.le_of_ble_eq_true rfl) dX4_init_56 (fun q6 cA H hK1 hP hD hS => ?_)
  have eA : cI = cA := K_I hK hK1
  subst eA
  have hP : va_P D cls ([(h0, .inr (4, [.ref q0, .ref q1, .ref q2, .ref q3, .ref q4, .ref q5, .null, .null, .null, .null, .null, .null])), (q0, .inl (cI, 32, .inl (fun _ => 0))), (q1, .inl (cI, 32, .inl (fun _ => 0))), (q2, .inl (cI, 32, .inl (fun _ => 0))), (q3, .inl (cI, 32, .inl (fun _ => 0))), (q4, .inl (cI, 32, .inl (fun _ => 0))), (q5, .inl (cI, 32, .inl (fun _ => 0))), (q6, .inl (cI, 256, .inl (fun _ => 0)))] : va_W) H := hP
  have hD : va_D A ([(h0, .inr (4, [.ref q0, .ref q1, .ref q2, .ref q3, .ref q4, .ref q5, .null, .null, .null, .null, .null, .null])), (q0, .inl (cI, 32, .inl (fun _ => 0))), (q1, .inl (cI, 32, .inl (fun _ => 0))), (q2, .inl (cI, 32, .inl (fun _ => 0))), (q3, .inl (cI, 32, .inl (fun _ => 0))), (q4, .inl (cI, 32, .inl (fun _ => 0))), (q5, .inl (cI, 32, .inl (fun _ => 0))), (q6, .inl (cI, 256, .inl (fun _ => 0)))] : va_W) := hD
  refine W.cs (cells' := 7) (slots' := 448) rfl rfl ?_
  refine va_putF (D := D) (ci := 4) (v := .ref q6) (ty := .array .int) (C := RX4) (T := TX4) (N := 12) hx hb hts i4 tyX4 tyX4_ok nmX4 hown hK hP hD hS 0 rfl rfl 6 (by decide) hk30 (fun _ h9 => h9) rfl hin rfl (by decide +kernel) rfl rfl (Nat.le_of_ble_eq_true rfl) dX4_init_58 (fun H locs hP hD hS => ?_)
  have hP : va_P D cls ([(h0, .inr (4, [.ref q0, .ref q1, .ref q2, .ref q3, .ref q4, .ref q5, .ref q6, .null, .null, .null, .null, .null])), (q0, .inl (cI, 32, .inl (fun _ => 0))), (q1, .inl (cI, 32, .inl (fun _ => 0))), (q2, .inl (cI, 32, .inl (fun _ => 0))), (q3, .inl (cI, 32, .inl (fun _ => 0))), (q4, .inl (cI, 32, .inl (fun _ => 0))), (q5, .inl (cI, 32, .inl (fun _ => 0))), (q6, .inl (cI, 256, .inl (fun _ => 0)))] : va_W) H := hP
  have hD : va_D A ([(h0, .inr (4, [.ref q0, .ref q1, .ref q2, .ref q3, .ref q4, .ref q5, .ref q6, .null, .null, .null, .null, .null])), (q0, .inl (cI, 32, .inl (fun _ => 0))), (q1, .inl (cI, 32, .inl (fun _ => 0))), (q2, .inl (cI, 32, .inl (fun _ => 0))), (q3, .inl (cI, 32, .inl (fun _ => 0))), (q4, .inl (cI, 32, .inl (fun _ => 0))), (q5, .inl (cI, 32, .inl (fun _ => 0))), (q6, .inl (cI, 256, .inl (fun _ => 0)))] : va_W) := hD
  refine lv_aload_n hx hb dX4_init_61 rfl (lv_at hl 0 rfl) ?_
  refine lv_sipush (v := 256) hx hb dX4_init_62 (by decide) ?_
  refine va_newa (atype := .int) (ty := .int) (N' := 256) (a0 := (256, .inl (fun _ => 0))) hx hb (hts (.arrayClass .int) (by decide +kernel)) rfl hK hP hD hS hA (fun _ => rfl) (by decide) (by decide) (Nat.le_of_ble_eq_true rfl) (Nat.le_of_ble_eq_true rfl) (Nat.le_of_ble_eq_true rfl) dX4_init_65 (fun q7 cA H hK1 hP hD hS => ?_)
  have eA : cI = cA := K_I hK hK1
  subst eA
  have hP : va_P D cls ([(h0, .inr (4, [.ref q0, .ref q1, .ref q2, .ref q3, .ref q4, .ref q5, .ref q6, .null, .null, .null, .null, .null])), (q0, .inl (cI, 32, .inl (fun _ => 0))), (q1, .inl (cI, 32, .inl (fun _ => 0))), (q2, .inl (cI, 32, .inl (fun _ => 0))), (q3, .inl (cI, 32, .inl (fun _ => 0))), (q4, .inl (cI, 32, .inl (fun _ => 0))), (q5, .inl (cI, 32, .inl (fun _ => 0))), (q6, .inl (cI, 256, .inl (fun _ => 0))), (q7, .inl (cI, 256, .inl (fun _ => 0)))] : va_W) H := hP
  have hD : va_D A ([(h0, .inr (4, [.ref q0, .ref q1, .ref q2, .ref q3, .ref q4, .ref q5, .ref q6, .null, .null, .null, .null, .null])), (q0, .inl (cI, 32, .inl (fun _ => 0))), (q1, .inl (cI, 32, .inl (fun _ => 0))), (q2, .inl (cI, 32, .inl (fun _ => 0))), (q3, .inl (cI, 32, .inl (fun _ => 0))), (q4, .inl (cI, 32, .inl (fun _ => 0))), (q5, .inl (cI, 32, .inl (fun _ => 0))), (q6, .inl (cI, 256, .inl (fun _ => 0))), (q7, .inl (cI, 256, .inl (fun _ => 0)))] : va_W) := hD
  refine W.cs (cells' := 8) (slots' := 704) rfl rfl ?_
  refine va_putF (D := D) (ci := 4) (v := .ref q7) (ty := .array .int) (C := RX4) (T := TX4) (N := 12) hx hb hts i4 tyX4 tyX4_ok nmX4 hown hK hP hD hS 0 rfl rfl 7 (by decide) hk33 (fun _ h9 => h9) rfl hin rfl (by decide +kernel) rfl rfl (Nat.le_of_ble_eq_true rfl) dX4_init_67 (fun H locs hP hD hS => ?_)
  have hP : va_P D cls ([(h0, .inr (4, [.ref q0, .ref q1, .ref q2, .ref q3, .ref q4, .ref q5, .ref q6, .ref q7, .null, .null, .null, .null])), (q0, .inl (cI, 32, .inl (fun _ => 0))), (q1, .inl (cI, 32, .inl (fun _ => 0))), (q2, .inl (cI, 32, .inl (fun _ => 0))), (q3, .inl (cI, 32, .inl (fun _ => 0))), (q4, .inl (cI, 32, .inl (fun _ => 0))), (q5, .inl (cI, 32, .inl (fun _ => 0))), (q6, .inl (cI, 256, .inl (fun _ => 0))), (q7, .inl (cI, 256, .inl (fun _ => 0)))] : va_W) H := hP
  have hD : va_D A ([(h0, .inr (4, [.ref q0, .ref q1, .ref q2, .ref q3, .ref q4, .ref q5, .ref q6, .ref q7, .null, .null, .null, .null])), (q0, .inl (cI, 32, .inl (fun _ => 0))), (q1, .inl (cI, 32, .inl (fun _ => 0))), (q2, .inl (cI, 32, .inl (fun _ => 0))), (q3, .inl (cI, 32, .inl (fun _ => 0))), (q4, .inl (cI, 32, .inl (fun _ => 0))), (q5, .inl (cI, 32, .inl (fun _ => 0))), (q6, .inl (cI, 256, .inl (fun _ => 0))), (q7, .inl (cI, 256, .inl (fun _ => 0)))] : va_W) := hD
  refine lv_aload_n hx hb dX4_init_70 rfl (lv_at hl 0 rfl) ?_
  refine lv_sipush (v := 512) hx hb dX4_init_71 (by decide) ?_
  refine va_newa (atype := .int) (ty := .int) (N' := 512) (a0 := (512, .inl (fun _ => 0))) hx hb (hts (.arrayClass .int) (by decide +kernel)) rfl hK hP hD hS hA (fun _ => rfl) (by decide) (by decide) (Nat.le_of_ble_eq_true rfl) (Nat.le_of_ble_eq_true rfl) (Nat.le_of_ble_eq_true rfl) dX4_init_74 (fun q8 cA H hK1 hP hD hS => ?_)
  have eA : cI = cA := K_I hK hK1
  subst eA
  have hP : va_P D cls ([(h0, .inr (4, [.ref q0, .ref q1, .ref q2, .ref q3, .ref q4, .ref q5, .ref q6, .ref q7, .null, .null, .null, .null])), (q0, .inl (cI, 32, .inl (fun _ => 0))), (q1, .inl (cI, 32, .inl (fun _ => 0))), (q2, .inl (cI, 32, .inl (fun _ => 0))), (q3, .inl (cI, 32, .inl (fun _ => 0))), (q4, .inl (cI, 32, .inl (fun _ => 0))), (q5, .inl (cI, 32, .inl (fun _ => 0))), (q6, .inl (cI, 256, .inl (fun _ => 0))), (q7, .inl (cI, 256, .inl (fun _ => 0))), (q8, .inl (cI, 512, .inl (fun _ => 0)))] : va_W) H := hP
  have hD : va_D A ([(h0, .inr (4, [.ref q0, .ref q1, .ref q2, .ref q3, .ref q4, .ref q5, .ref q6, .ref q7, .null, .null, .null, .null])), (q0, .inl (cI, 32, .inl (fun _ => 0))), (q1, .inl (cI, 32, .inl (fun _ => 0))), (q2, .inl (cI, 32, .inl (fun _ => 0))), (q3, .inl (cI, 32, .inl (fun _ => 0))), (q4, .inl (cI, 32, .inl (fun _ => 0))), (q5, .inl (cI, 32, .inl (fun _ => 0))), (q6, .inl (cI, 256, .inl (fun _ => 0))), (q7, .inl (cI, 256, .inl (fun _ => 0))), (q8, .inl (cI, 512, .inl (fun _ => 0)))] : va_W) := hD
  refine W.cs (cells' := 9) (slots' := 1216) rfl rfl ?_
  refine va_putF (D := D) (ci := 4) (v := .ref q8) (ty := .array .int) (C := RX4) (T := TX4) (N := 12) hx hb hts i4 tyX4 tyX4_ok nmX4 hown hK hP hD hS 0 rfl rfl 8 (by decide) hk36 (fun _ h9 => h9) rfl hin rfl (by decide +kernel) rfl rfl (Nat.le_of_ble_eq_true rfl) dX4_init_76 (fun H locs hP hD hS => ?_)
  have hP : va_P D cls ([(h0, .inr (4, [.ref q0, .ref q1, .ref q2, .ref q3, .ref q4, .ref q5, .ref q6, .ref q7, .ref q8, .null, .null, .null])), (q0, .inl (cI, 32, .inl (fun _ => 0))), (q1, .inl (cI, 32, .inl (fun _ => 0))), (q2, .inl (cI, 32, .inl (fun _ => 0))), (q3, .inl (cI, 32, .inl (fun _ => 0))), (q4, .inl (cI, 32, .inl (fun _ => 0))), (q5, .inl (cI, 32, .inl (fun _ => 0))), (q6, .inl (cI, 256, .inl (fun _ => 0))), (q7, .inl (cI, 256, .inl (fun _ => 0))), (q8, .inl (cI, 512, .inl (fun _ => 0)))] : va_W) H := hP
  have hD : va_D A ([(h0, .inr (4, [.ref q0, .ref q1, .ref q2, .ref q3, .ref q4, .ref q5, .ref q6, .ref q7, .ref q8, .null, .null, .null])), (q0, .inl (cI, 32, .inl (fun _ => 0))), (q1, .inl (cI, 32, .inl (fun _ => 0))), (q2, .inl (cI, 32, .inl (fun _ => 0))), (q3, .inl (cI, 32, .inl (fun _ => 0))), (q4, .inl (cI, 32, .inl (fun _ => 0))), (q5, .inl (cI, 32, .inl (fun _ => 0))), (q6, .inl (cI, 256, .inl (fun _ => 0))), (q7, .inl (cI, 256, .inl (fun _ => 0))), (q8, .inl (cI, 512, .inl (fun _ => 0)))] : va_W) := hD
  refine lv_aload_n hx hb dX4_init_79 rfl (lv_at hl 0 rfl) ?_
  refine lv_sipush (v := 512) hx hb dX4_init_80 (by decide) ?_
  refine va_newa (atype := .int) (ty := .int) (N' := 512) (a0 := (512, .inl (fun _ => 0))) hx hb (hts (.arrayClass .int) (by decide +kernel)) rfl hK hP hD hS hA (fun _ => rfl) (by decide) (by decide) (Nat.le_of_ble_eq_true rfl) (Nat.le_of_ble_eq_true rfl) (Nat.le_of_ble_eq_true rfl) dX4_init_83 (fun q9 cA H hK1 hP hD hS => ?_)
  have eA : cI = cA := K_I hK hK1
  subst eA
  have hP : va_P D cls ([(h0, .inr (4, [.ref q0, .ref q1, .ref q2, .ref q3, .ref q4, .ref q5, .ref q6, .ref q7, .ref q8, .null, .null, .null])), (q0, .inl (cI, 32, .inl (fun _ => 0))), (q1, .inl (cI, 32, .inl (fun _ => 0))), (q2, .inl (cI, 32, .inl (fun _ => 0))), (q3, .inl (cI, 32, .inl (fun _ => 0))), (q4, .inl (cI, 32, .inl (fun _ => 0))), (q5, .inl (cI, 32, .inl (fun _ => 0))), (q6, .inl (cI, 256, .inl (fun _ => 0))), (q7, .inl (cI, 256, .inl (fun _ => 0))), (q8, .inl (cI, 512, .inl (fun _ => 0))), (q9, .inl (cI, 512, .inl (fun _ => 0)))] : va_W) H := hP
  have hD : va_D A ([(h0, .inr (4, [.ref q0, .ref q1, .ref q2, .ref q3, .ref q4, .ref q5, .ref q6, .ref q7, .ref q8, .null, .null, .null])), (q0, .inl (cI, 32, .inl (fun _ => 0))), (q1, .inl (cI, 32, .inl (fun _ => 0))), (q2, .inl (cI, 32, .inl (fun _ => 0))), (q3, .inl (cI, 32, .inl (fun _ => 0))), (q4, .inl (cI, 32, .inl (fun _ => 0))), (q5, .inl (cI, 32, .inl (fun _ => 0))), (q6, .inl (cI, 256, .inl (fun _ => 0))), (q7, .inl (cI, 256, .inl (fun _ => 0))), (q8, .inl (cI, 512, .inl (fun _ => 0))), (q9, .inl (cI, 512, .inl (fun _ => 0)))] : va_W) := hD
  refine W.cs (cells' := 10) (slots' := 1728) rfl rfl ?_
  refine va_putF (D := D) (ci := 4) (v := .ref q9) (ty := .array .int) (C := RX4) (T := TX4) (N := 12) hx hb hts i4 tyX4 tyX4_ok nmX4 hown hK hP hD hS 0 rfl rfl 9 (by decide) hk39 (fun _ h9 => h9) rfl hin rfl (by decide +kernel) rfl rfl (Nat.le_of_ble_eq_true rfl) dX4_init_85 (fun H locs hP hD hS => ?_)
  have hP : va_P D cls ([(h0, .inr (4, [.ref q0, .ref q1, .ref q2, .ref q3, .ref q4, .ref q5, .ref q6, .ref q7, .ref q8, .ref q9, .null, .null])), (q0, .inl (cI, 32, .inl (fun _ => 0))), (q1, .inl (cI, 32, .inl (fun _ => 0))), (q2, .inl (cI, 32, .inl (fun _ => 0))), (q3, .inl (cI, 32, .inl (fun _ => 0))), (q4, .inl (cI, 32, .inl (fun _ => 0))), (q5, .inl (cI, 32, .inl (fun _ => 0))), (q6, .inl (cI, 256, .inl (fun _ => 0))), (q7, .inl (cI, 256, .inl (fun _ => 0))), (q8, .inl (cI, 512, .inl (fun _ => 0))), (q9, .inl (cI, 512, .inl (fun _ => 0)))] : va_W) H := hP
  have hD : va_D A ([(h0, .inr (4, [.ref q0, .ref q1, .ref q2, .ref q3, .ref q4, .ref q5, .ref q6, .ref q7, .ref q8, .ref q9, .null, .null])), (q0, .inl (cI, 32, .inl (fun _ => 0))), (q1, .inl (cI, 32, .inl (fun _ => 0))), (q2, .inl (cI, 32, .inl (fun _ => 0))), (q3, .inl (cI, 32, .inl (fun _ => 0))), (q4, .inl (cI, 32, .inl (fun _ => 0))), (q5, .inl (cI, 32, .inl (fun _ => 0))), (q6, .inl (cI, 256, .inl (fun _ => 0))), (q7, .inl (cI, 256, .inl (fun _ => 0))), (q8, .inl (cI, 512, .inl (fun _ => 0))), (q9, .inl (cI, 512, .inl (fun _ => 0)))] : va_W) := hD
  refine lv_aload_n hx hb dX4_init_88 rfl (lv_at hl 0 rfl) ?_
  refine lv_bipush (v := 32) hx hb dX4_init_89 (by decide) ?_
  refine va_newa (atype := .int) (ty := .int) (N' := 32) (a0 := (32, .inl (fun _ => 0))) hx hb (hts (.arrayClass .int) (by decide +kernel)) rfl hK hP hD hS hA (fun _ => rfl) (by decide) (by decide) (Nat.le_of_ble_eq_true rfl) (Nat.le_of_ble_eq_true rfl) (Nat.le_of_ble_eq_true rfl) dX4_init_91 (fun q10 cA H hK1 hP hD hS => ?_)
  have eA : cI = cA := K_I hK hK1
  subst eA
  have hP : va_P D cls ([(h0, .inr (4, [.ref q0, .ref q1, .ref q2, .ref q3, .ref q4, .ref q5, .ref q6, .ref q7, .ref q8, .ref q9, .null, .null])), (q0, .inl (cI, 32, .inl (fun _ => 0))), (q1, .inl (cI, 32, .inl (fun _ => 0))), (q2, .inl (cI, 32, .inl (fun _ => 0))), (q3, .inl (cI, 32, .inl (fun _ => 0))), (q4, .inl (cI, 32, .inl (fun _ => 0))), (q5, .inl (cI, 32, .inl (fun _ => 0))), (q6, .inl (cI, 256, .inl (fun _ => 0))), (q7, .inl (cI, 256, .inl (fun _ => 0))), (q8, .inl (cI, 512, .inl (fun _ => 0))), (q9, .inl (cI, 512, .inl (fun _ => 0))), (q10, .inl (cI, 32, .inl (fun _ => 0)))] : va_W) H := hP
  have hD : va_D A ([(h0, .inr (4, [.ref q0, .ref q1, .ref q2, .ref q3, .ref q4, .ref q5, .ref q6, .ref q7, .ref q8, .ref q9, .null, .null])), (q0, .inl (cI, 32, .inl (fun _ => 0))), (q1, .inl (cI, 32, .inl (fun _ => 0))), (q2, .inl (cI, 32, .inl (fun _ => 0))), (q3, .inl (cI, 32, .inl (fun _ => 0))), (q4, .inl (cI, 32, .inl (fun _ => 0))), (q5, .inl (cI, 32, .inl (fun _ => 0))), (q6, .inl (cI, 256, .inl (fun _ => 0))), (q7, .inl (cI, 256, .inl (fun _ => 0))), (q8, .inl (cI, 512, .inl (fun _ => 0))), (q9, .inl (cI, 512, .inl (fun _ => 0))), (q10, .inl (cI, 32, .inl (fun _ => 0)))] : va_W) := hD
  refine W.cs (cells' := 11) (slots' := 1760) rfl rfl ?_
  refine va_putF (D := D) (ci := 4) (v := .ref q10) (ty := .array .int) (C := RX4) (T := TX4) (N := 12) hx hb hts i4 tyX4 tyX4_ok nmX4 hown hK hP hD hS 0 rfl rfl 10 (by decide) hk42 (fun _ h9 => h9) rfl hin rfl (by decide +kernel) rfl rfl (Nat.le_of_ble_eq_true rfl) dX4_init_93 (fun H locs hP hD hS => ?_)
  have hP : va_P D cls ([(h0, .inr (4, [.ref q0, .ref q1, .ref q2, .ref q3, .ref q4, .ref q5, .ref q6, .ref q7, .ref q8, .ref q9, .ref q10, .null])), (q0, .inl (cI, 32, .inl (fun _ => 0))), (q1, .inl (cI, 32, .inl (fun _ => 0))), (q2, .inl (cI, 32, .inl (fun _ => 0))), (q3, .inl (cI, 32, .inl (fun _ => 0))), (q4, .inl (cI, 32, .inl (fun _ => 0))), (q5, .inl (cI, 32, .inl (fun _ => 0))), (q6, .inl (cI, 256, .inl (fun _ => 0))), (q7, .inl (cI, 256, .inl (fun _ => 0))), (q8, .inl (cI, 512, .inl (fun _ => 0))), (q9, .inl (cI, 512, .inl (fun _ => 0))), (q10, .inl (cI, 32, .inl (fun _ => 0)))] : va_W) H := hP
  have hD : va_D A ([(h0, .inr (4, [.ref q0, .ref q1, .ref q2, .ref q3, .ref q4, .ref q5, .ref q6, .ref q7, .ref q8, .ref q9, .ref q10, .null])), (q0, .inl (cI, 32, .inl (fun _ => 0))), (q1, .inl (cI, 32, .inl (fun _ => 0))), (q2, .inl (cI, 32, .inl (fun _ => 0))), (q3, .inl (cI, 32, .inl (fun _ => 0))), (q4, .inl (cI, 32, .inl (fun _ => 0))), (q5, .inl (cI, 32, .inl (fun _ => 0))), (q6, .inl (cI, 256, .inl (fun _ => 0))), (q7, .inl (cI, 256, .inl (fun _ => 0))), (q8, .inl (cI, 512, .inl (fun _ => 0))), (q9, .inl (cI, 512, .inl (fun _ => 0))), (q10, .inl (cI, 32, .inl (fun _ => 0)))] : va_W) := hD
  refine lv_aload_n hx hb dX4_init_96 rfl (lv_at hl 0 rfl) ?_
  refine lv_bipush (v := 64) hx hb dX4_init_97 (by decide) ?_
  refine va_newa (atype := .int) (ty := .int) (N' := 64) (a0 := (64, .inl (fun _ => 0))) hx hb (hts (.arrayClass .int) (by decide +kernel)) rfl hK hP hD hS hA (fun _ => rfl) (by decide) (by decide) (Nat.le_of_ble_eq_true rfl) (Nat.le_of_ble_eq_true rfl) (Nat.le_of_ble_eq_true rfl) dX4_init_99 (fun q11 cA H hK1 hP hD hS => ?_)
  have eA : cI = cA := K_I hK hK1
  subst eA
  have hP : va_P D cls ([(h0, .inr (4, [.ref q0, .ref q1, .ref q2, .ref q3, .ref q4, .ref q5, .ref q6, .ref q7, .ref q8, .ref q9, .ref q10, .null])), (q0, .inl (cI, 32, .inl (fun _ => 0))), (q1, .inl (cI, 32, .inl (fun _ => 0))), (q2, .inl (cI, 32, .inl (fun _ => 0))), (q3, .inl (cI, 32, .inl (fun _ => 0))), (q4, .inl (cI, 32, .inl (fun _ => 0))), (q5, .inl (cI, 32, .inl (fun _ => 0))), (q6, .inl (cI, 256, .inl (fun _ => 0))), (q7, .inl (cI, 256, .inl (fun _ => 0))), (q8, .inl (cI, 512, .inl (fun _ => 0))), (q9, .inl (cI, 512, .inl (fun _ => 0))), (q10, .inl (cI, 32, .inl (fun _ => 0))), (q11, .inl (cI, 64, .inl (fun _ => 0)))] : va_W) H := hP
  have hD : va_D A ([(h0, .inr (4, [.ref q0, .ref q1, .ref q2, .ref q3, .ref q4, .ref q5, .ref q6, .ref q7, .ref q8, .ref q9, .ref q10, .null])), (q0, .inl (cI, 32, .inl (fun _ => 0))), (q1, .inl (cI, 32, .inl (fun _ => 0))), (q2, .inl (cI, 32, .inl (fun _ => 0))), (q3, .inl (cI, 32, .inl (fun _ => 0))), (q4, .inl (cI, 32, .inl (fun _ => 0))), (q5, .inl (cI, 32, .inl (fun _ => 0))), (q6, .inl (cI, 256, .inl (fun _ => 0))), (q7, .inl (cI, 256, .inl (fun _ => 0))), (q8, .inl (cI, 512, .inl (fun _ => 0))), (q9, .inl (cI, 512, .inl (fun _ => 0))), (q10, .inl (cI, 32, .inl (fun _ => 0))), (q11, .inl (cI, 64, .inl (fun _ => 0)))] : va_W) := hD
  refine W.cs (cells' := 12) (slots' := 1824) rfl rfl ?_
  refine va_putF (D := D) (ci := 4) (v := .ref q11) (ty := .array .int) (C := RX4) (T := TX4) (N := 12) hx hb hts i4 tyX4 tyX4_ok nmX4 hown hK hP hD hS 0 rfl rfl 11 (by decide) hk45 (fun _ h9 => h9) rfl hin rfl (by decide +kernel) rfl rfl (Nat.le_of_ble_eq_true rfl) dX4_init_101 (fun H locs hP hD hS => ?_)
  have hP : va_P D cls ([(h0, .inr (4, [.ref q0, .ref q1, .ref q2, .ref q3, .ref q4, .ref q5, .ref q6, .ref q7, .ref q8, .ref q9, .ref q10, .ref q11])), (q0, .inl (cI, 32, .inl (fun _ => 0))), (q1, .inl (cI, 32, .inl (fun _ => 0))), (q2, .inl (cI, 32, .inl (fun _ => 0))), (q3, .inl (cI, 32, .inl (fun _ => 0))), (q4, .inl (cI, 32, .inl (fun _ => 0))), (q5, .inl (cI, 32, .inl (fun _ => 0))), (q6, .inl (cI, 256, .inl (fun _ => 0))), (q7, .inl (cI, 256, .inl (fun _ => 0))), (q8, .inl (cI, 512, .inl (fun _ => 0))), (q9, .inl (cI, 512, .inl (fun _ => 0))), (q10, .inl (cI, 32, .inl (fun _ => 0))), (q11, .inl (cI, 64, .inl (fun _ => 0)))] : va_W) H := hP
  have hD : va_D A ([(h0, .inr (4, [.ref q0, .ref q1, .ref q2, .ref q3, .ref q4, .ref q5, .ref q6, .ref q7, .ref q8, .ref q9, .ref q10, .ref q11])), (q0, .inl (cI, 32, .inl (fun _ => 0))), (q1, .inl (cI, 32, .inl (fun _ => 0))), (q2, .inl (cI, 32, .inl (fun _ => 0))), (q3, .inl (cI, 32, .inl (fun _ => 0))), (q4, .inl (cI, 32, .inl (fun _ => 0))), (q5, .inl (cI, 32, .inl (fun _ => 0))), (q6, .inl (cI, 256, .inl (fun _ => 0))), (q7, .inl (cI, 256, .inl (fun _ => 0))), (q8, .inl (cI, 512, .inl (fun _ => 0))), (q9, .inl (cI, 512, .inl (fun _ => 0))), (q10, .inl (cI, 32, .inl (fun _ => 0))), (q11, .inl (cI, 64, .inl (fun _ => 0)))] : va_W) := hD
  obtain ⟨a0, ha0⟩ : ∃ a0 : Nat → Nat, a0 = (fun k => [h0, q0, q1, q2, q3, q4, q5, q6, q7, q8, q9, q10, q11].getD k 0) := ⟨_, rfl⟩
  have e0 : a0 0 = h0 := by rw [ha0]; rfl
  have hP : va_P D cls (wX4 cI cZ a0 z0) H := by rw [ha0]; exact hP
  have hD : va_D A (wX4 cI cZ a0 z0) := by rw [ha0]; exact hD
  have hDD : ∀ w : S1, va_D A (wX4 cI cZ a0 w) := fun _ => D_same (w := (wX4 cI cZ a0 z0)) rfl hD
  have hl : lv_has ls 2 [(0, .ref (a0 0))] := by rw [e0]; exact hl
  refine lv_iconst (v := 0) hx hb dX4_init_104 (by decide) ?_
  refine lv_istore_n (lv' := [(1, .int 0), (0, .ref (a0 0))]) hx hb dX4_init_105 rfl hl (by decide) rfl (fun ls hl => ?_)
  obtain ⟨G106_1, hG106_1, hf⟩ := qj2_some hf
  have j106_1 : ∀ (n : Nat) (y106_1_1 : Int32) (u106_1_0 : S1) (H : Heap) (locs : List Loc) (ls : Array Slot), ql2 G106_1 n y106_1_1 u106_1_0 = some o → va_P D cls (wX4 cI cZ a0 u106_1_0) H → va_S A s.heap H locs → lv_has ls 2 [(0, .ref (a0 0)), (1, .int y106_1_1)] → W p l e (headSpec wsX4_init rmX4_init).room s m args below meth c H locs 12 1824 Q (F0 m 106 ls []) := by
    intro n
    induction n with
    | zero => intro y106_1_1 u106_1_0 H locs ls hf hP hS hl; exact (ql2_z hf).elim
    | succ n ih106_1 =>
      intro y106_1_1 u106_1_0 H locs ls hf hP hS hl
      have hf := ql2_s hG106_1 hf
      obtain ⟨r106_1, hr106_1⟩ : ∃ z, z = ql2 G106_1 n := ⟨_, rfl⟩
      rw [← hr106_1] at hf ih106_1
      refine lv_iload_n hx hb dX4_init_106 rfl (lv_at hl 1 rfl) ?_
      refine lv_bipush (v := 32) hx hb dX4_init_107 (by decide) ?_
      refine lv_icmp_ge (tgt := 125) hx hb dX4_init_109 (by decide) (fun c_2 => ?_) (fun c_2 => ?_)
      · have hf := ite_t hf c_2
        refine lv_iconst (v := 0) hx hb dX4_init_125 (by decide) ?_
        refine lv_istore_n (lv' := [(1, .int 0), (0, .ref (a0 0))]) hx hb dX4_init_126 rfl hl (by decide) rfl (fun ls hl => ?_)
        obtain ⟨G127_3, hG127_3, hf⟩ := qj2_some hf
        have j127_3 : ∀ (n : Nat) (y127_3_1 : Int32) (u127_3_0 : S1) (H : Heap) (locs : List Loc) (ls : Array Slot), ql2 G127_3 n y127_3_1 u127_3_0 = some o → va_P D cls (wX4 cI cZ a0 u127_3_0) H → va_S A s.heap H locs → lv_has ls 2 [(0, .ref (a0 0)), (1, .int y127_3_1)] → W p l e (headSpec wsX4_init rmX4_init).room s m args below meth c H locs 12 1824 Q (F0 m 127 ls []) := by
          intro n
          induction n with
          | zero => intro y127_3_1 u127_3_0 H locs ls hf hP hS hl; exact (ql2_z hf).elim
          | succ n ih127_3 =>
            intro y127_3_1 u127_3_0 H locs ls hf hP hS hl
            have hf := ql2_s hG127_3 hf
            obtain ⟨r127_3, hr127_3⟩ : ∃ z, z = ql2 G127_3 n := ⟨_, rfl⟩
            rw [← hr127_3] at hf ih127_3
            refine lv_iload_n hx hb dX4_init_127 rfl (lv_at hl 1 rfl) ?_
            refine lv_sipush (v := 512) hx hb dX4_init_128 (by decide) ?_
            refine lv_icmp_ge (tgt := 147) hx hb dX4_init_131 (by decide) (fun c_4 => ?_) (fun c_4 => ?_)
            · have hf := ite_t hf c_4
              refine lv_aload_n hx hb dX4_init_147 rfl (lv_at hl 0 rfl) ?_
              refine va_get (D := D) (ci := 4) (v := .ref (a0 1)) (C := RX4) (T := TX4) (N := 12) hx hb hts i4 hown hK hP 0 rfl rfl 0 (by decide) hk9 (fun _ h9 => h9) rfl dX4_init_148 ?_
              refine lv_iconst (v := 0) hx hb dX4_init_151 (by decide) ?_
              refine lv_iconst (v := 1) hx hb dX4_init_152 (by decide) ?_
              obtain ⟨hi, hf⟩ := chk_some hf
              obtain ⟨u_5, hu_5, hf⟩ := bv_some hf
              refine va_iast hx hb hK hP (hDD u127_3_0) hS 1 0 rfl rfl (inb_in hi) dX4_init_153 (fun H locs hP _ hS => ?_)
              have hP : va_P D cls (wX4 cI cZ a0 u_5) H := by rw [hu_5]; exact hP
              refine lv_aload_n hx hb dX4_init_154 rfl (lv_at hl 0 rfl) ?_
              refine va_get (D := D) (ci := 4) (v := .ref (a0 3)) (C := RX4) (T := TX4) (N := 12) hx hb hts i4 hown hK hP 0 rfl rfl 2 (by decide) hk18 (fun _ h9 => h9) rfl dX4_init_155 ?_
              refine lv_iconst (v := 0) hx hb dX4_init_158 (by decide) ?_
              refine lv_bipush (v := 15) hx hb dX4_init_159 (by decide) ?_
              obtain ⟨hi, hf⟩ := chk_some hf
              obtain ⟨u_6, hu_6, hf⟩ := bv_some hf
              refine va_iast hx hb hK hP (hDD u_5) hS 3 0 rfl rfl (inb_in hi) dX4_init_161 (fun H locs hP _ hS => ?_)
              have hP : va_P D cls (wX4 cI cZ a0 u_6) H := by rw [hu_6]; exact hP
              have eo := Option.some.inj hf
              have hP : va_P D cls (wX4 cI cZ a0 o) H := by rw [← eo]; exact hP
              rw [hQ]
              exact W.vret hx hb hr (fun t ht hW => ⟨⟨(), rfl, trivial, a0, e0, P_at ht hP, hDD _⟩, hS.F ht⟩) hS.2.2 dX4_init_162 hlocks
            · have hf := ite_f hf c_4
              refine lv_aload_n hx hb dX4_init_134 rfl (lv_at hl 0 rfl) ?_
              refine va_get (D := D) (ci := 4) (v := .ref (a0 10)) (C := RX4) (T := TX4) (N := 12) hx hb hts i4 hown hK hP 0 rfl rfl 9 (by decide) hk39 (fun _ h9 => h9) rfl dX4_init_135 ?_
              refine lv_iload_n hx hb dX4_init_138 rfl (lv_at hl 1 rfl) ?_
              refine lv_iconst (v := (-1)) hx hb dX4_init_139 (by decide) ?_
              obtain ⟨hi, hf⟩ := chk_some hf
              obtain ⟨u_7, hu_7, hf⟩ := bv_some hf
              refine va_iast hx hb hK hP (hDD u127_3_0) hS 10 0 rfl rfl (inb_in hi) dX4_init_140 (fun H locs hP _ hS => ?_)
              have hP : va_P D cls (wX4 cI cZ a0 u_7) H := by rw [hu_7]; exact hP
              refine lv_iinc (v := y127_3_1 + 1) (lv' := [(1, .int (y127_3_1 + 1)), (0, .ref (a0 0))]) hx hb dX4_init_141 hl (k := 1) rfl rfl (by decide) rfl (fun ls hl => ?_)
              refine lv_goto (tgt := 127) hx hb dX4_init_144 (by decide) ?_
              exact ih127_3 _ _ _ _ _ hf hP hS (lv_sub hl [1, 0] rfl)
        exact j127_3 4096 _ _ _ _ _ hf hP hS (lv_sub hl [1, 0] rfl)
      · have hf := ite_f hf c_2
        refine lv_aload_n hx hb dX4_init_112 rfl (lv_at hl 0 rfl) ?_
        refine va_get (D := D) (ci := 4) (v := .ref (a0 1)) (C := RX4) (T := TX4) (N := 12) hx hb hts i4 hown hK hP 0 rfl rfl 0 (by decide) hk9 (fun _ h9 => h9) rfl dX4_init_113 ?_
        refine lv_iload_n hx hb dX4_init_116 rfl (lv_at hl 1 rfl) ?_
        refine lv_iconst (v := (-1)) hx hb dX4_init_117 (by decide) ?_
        obtain ⟨hi, hf⟩ := chk_some hf
        obtain ⟨u_8, hu_8, hf⟩ := bv_some hf
        refine va_iast hx hb hK hP (hDD u106_1_0) hS 1 0 rfl rfl (inb_in hi) dX4_init_118 (fun H locs hP _ hS => ?_)
        have hP : va_P D cls (wX4 cI cZ a0 u_8) H := by rw [hu_8]; exact hP
        refine lv_iinc (v := y106_1_1 + 1) (lv' := [(1, .int (y106_1_1 + 1)), (0, .ref (a0 0))]) hx hb dX4_init_119 hl (k := 1) rfl rfl (by decide) rfl (fun ls hl => ?_)
        refine lv_goto (tgt := 106) hx hb dX4_init_122 (by decide) ?_
        exact ih106_1 _ _ _ _ _ hf hP hS (lv_sub hl [1, 0] rfl)
  exact j106_1 4096 _ _ _ _ _ hf hP hS (lv_sub hl [1, 0] rfl)
theorem dX5_init_0 : decode cX5_init 0 = .ok (.aload_n 0, 1) := by decide +kernel
theorem dX5_init_1 : decode cX5_init 1 = .ok (.invokespecial 5, 3) := by decide +kernel
theorem dX5_init_4 : decode cX5_init 4 = .ok (.aload_n 0, 1) := by decide +kernel
theorem dX5_init_5 : decode cX5_init 5 = .ok (.bipush 20, 2) := by decide +kernel
theorem dX5_init_7 : decode cX5_init 7 = .ok (.newarray .int, 2) := by decide +kernel
theorem dX5_init_9 : decode cX5_init 9 = .ok (.putfield 11, 3) := by decide +kernel
theorem dX5_init_12 : decode cX5_init 12 = .ok (.aload_n 0, 1) := by decide +kernel
theorem dX5_init_13 : decode cX5_init 13 = .ok (.iconst 0, 1) := by decide +kernel
theorem dX5_init_14 : decode cX5_init 14 = .ok (.putfield 15, 3) := by decide +kernel
theorem dX5_init_17 : decode cX5_init 17 = .ok (.return_, 1) := by decide +kernel
def f_X5_init : Option S1 := some z0
def rmX5_init : Room := { frames := 1, cells := 1, slots := 20, locals := 12 }
set_option maxHeartbeats 4000000 in
set_option maxRecDepth 100000 in
theorem c_X5_init (l : Launch) (D : va_G) (cI cZ cJ cT : ClassId) (h0 sz : Nat) (o : S1) (hf : f_X5_init = some o) : Met l yX5_init wsX5_init rmX5_init (va_Pc [.ref h0] (PW D cls (tys cI cZ cJ cT) ([(h0, .inr (5, [.null, .int 0]))] : va_W) sz)) (QC D cls (fun a => wX5 cI cZ a o) h0 (va_A ([(h0, .inr (5, [.null, .int 0]))] : va_W) sz)) 1 20 (va_A ([(h0, .inr (5, [.null, .int 0]))] : va_W) sz) := by
  refine Met.ofW (cc := cX5_init) (maxL := 1) (ret := none) (by decide) rfl ?_
  intro p e s m args below meth c s₁ B hml hv
  obtain ⟨hav, hsz, hP, hK, hD0⟩ := hv
  have hx := B.exec
  have hb := B.bytes
  have hr := B.returns
  have hlocks := B.notSynchronized
  have hts := atoms_spec (ws := wsX5_init) B.pre
  have hown : s.vm.findClass RX5 = some m.cls := findClass_of_methodNamed B.named
  have hin : meth.name = "<init>" := (name_of_methodNamed B.named B.method).1
  have i5 : ∀ w ∈ wsX50, w ∈ wsX5_init := fun w h => List.mem_cons_of_mem _ (List.mem_append_right _ h)
  have hk11 := hts (.fieldLink RX5 11 "Inodery$Walk" "names" "[I") (by decide +kernel)
  have hk15 := hts (.fieldLink RX5 15 "Inodery$Walk" "left" "I") (by decide +kernel)
  subst hsz
  have hD := hD0.self (sz := s.heap.size)
  generalize hAe : va_A ([(h0, .inr (5, [.null, .int 0]))] : va_W) s.heap.size = A at hD ⊢
  have hA : ∀ q : Nat, s.heap.size ≤ q → A q := fun q h => by rw [← hAe]; exact Or.inr h
  have hS : va_S A s.heap s.heap [] := va_S.rf
  refine Wq (fun Q hQ => ?_)
  refine W_entry hav (Nat.le_of_ble_eq_true rfl) (fun ls hl => ?_)
  have hl : lv_has ls 1 [(0, .ref h0)] := hl
  unfold f_X5_init at hf
  refine W_heap hP hS (fun H locs hP hS => ?_)
  refine lv_aload_n hx hb dX5_init_0 rfl (lv_at hl 0 rfl) ?_
  refine W.objInit hx hb hown (hts (.methodLink RX5 5 objectInit) (by decide +kernel)) (hts (.instanceMethod objectInit) (by decide +kernel)) (hts (.code objectInit ⟨#[0xb1]⟩ 1 none) (by decide +kernel)) rfl (by rw [hml]; exact hl.1) rfl dX5_init_1 (Nat.le_of_ble_eq_true rfl) (Nat.le_of_ble_eq_true rfl) ?_
  refine W.eq (g2 := F0 m 4 ls []) rfl ?_
  refine lv_aload_n hx hb dX5_init_4 rfl (lv_at hl 0 rfl) ?_
  refine lv_bipush (v := 20) hx hb dX5_init_5 (by decide) ?_
  refine va_newa (atype := .int) (ty := .int) (N' := 20) (a0 := (20, .inl (fun _ => 0))) hx hb (hts (.arrayClass .int) (by decide +kernel)) rfl hK hP hD hS hA (fun _ => rfl) (by decide) (by decide) (Nat.le_of_ble_eq_true rfl) (Nat.le_of_ble_eq_true rfl) (Nat.le_of_ble_eq_true rfl) dX5_init_7 (fun q0 cA H hK1 hP hD hS => ?_)
  have eA : cI = cA := K_I hK hK1
  subst eA
  have hP : va_P D cls ([(h0, .inr (5, [.null, .int 0])), (q0, .inl (cI, 20, .inl (fun _ => 0)))] : va_W) H := hP
  have hD : va_D A ([(h0, .inr (5, [.null, .int 0])), (q0, .inl (cI, 20, .inl (fun _ => 0)))] : va_W) := hD
  refine W.cs (cells' := 1) (slots' := 20) rfl rfl ?_
  refine va_putF (D := D) (ci := 5) (v := .ref q0) (ty := .array .int) (C := RX5) (T := TX5) (N := 2) hx hb hts i5 tyX5 tyX5_ok nmX5 hown hK hP hD hS 0 rfl rfl 0 (by decide) hk11 (fun _ h9 => h9) rfl hin rfl (by decide +kernel) rfl rfl (Nat.le_of_ble_eq_true rfl) dX5_init_9 (fun H locs hP hD hS => ?_)
  have hP : va_P D cls ([(h0, .inr (5, [.ref q0, .int 0])), (q0, .inl (cI, 20, .inl (fun _ => 0)))] : va_W) H := hP
  have hD : va_D A ([(h0, .inr (5, [.ref q0, .int 0])), (q0, .inl (cI, 20, .inl (fun _ => 0)))] : va_W) := hD
  refine lv_aload_n hx hb dX5_init_12 rfl (lv_at hl 0 rfl) ?_
  refine lv_iconst (v := 0) hx hb dX5_init_13 (by decide) ?_
  refine va_put (D := D) (ci := 5) (v := .int 0) (ty := .int) (C := RX5) (T := TX5) (N := 2) hx hb hts i5 tyX5 tyX5_ok nmX5 hown hK hP hD hS 0 rfl rfl 1 (by decide) hk15 (fun _ h9 => h9) rfl (by decide +kernel) rfl rfl (Nat.le_of_ble_eq_true rfl) dX5_init_14 (fun H locs hP hD hS => ?_)
  have hP : va_P D cls ([(h0, .inr (5, [.ref q0, .int 0])), (q0, .inl (cI, 20, .inl (fun _ => 0)))] : va_W) H := hP
  have hD : va_D A ([(h0, .inr (5, [.ref q0, .int 0])), (q0, .inl (cI, 20, .inl (fun _ => 0)))] : va_W) := hD
  obtain ⟨a0, ha0⟩ : ∃ a0 : Nat → Nat, a0 = (fun k => [h0, q0, h0].getD k 0) := ⟨_, rfl⟩
  have e0 : a0 0 = h0 := by rw [ha0]; rfl
  have hP : va_P D cls (wX5 cI cZ a0 z0) H := by rw [ha0]; exact hP
  have hD : va_D A (wX5 cI cZ a0 z0) := by rw [ha0]; exact hD
  have hDD : ∀ w : S1, va_D A (wX5 cI cZ a0 w) := fun _ => D_same (w := (wX5 cI cZ a0 z0)) rfl hD
  have hl : lv_has ls 1 [(0, .ref (a0 0))] := by rw [e0]; exact hl
  have eo := Option.some.inj hf
  have hP : va_P D cls (wX5 cI cZ a0 o) H := by rw [← eo]; exact hP
  rw [hQ]
  exact W.vret hx hb hr (fun t ht hW => ⟨⟨(), rfl, trivial, a0, e0, P_at ht hP, hDD _⟩, hS.F ht⟩) hS.2.2 dX5_init_17 hlocks
set_option maxRecDepth 20000 in
theorem ggX7_init_X7_copies : GoodIn wsX7_init wsX7_copies := goodIn_r _ [31, 5, 32, 33, 34, 35, 36, 37, 38, 39, 40, 41, 42, 43, 44, 45, 46, 47, 48, 49, 50] (by decide +kernel) (by decide +kernel)
set_option maxRecDepth 20000 in
theorem gX7_init_X7_copies : GoodIn wsX7_init (wsV RX7 54 RX7 yX7_copies wsX7_copies) := goodIn_app (goodIn_of _ (by decide +kernel)) ggX7_init_X7_copies
set_option maxRecDepth 20000 in
theorem ggX7_init_X7_makes : GoodIn wsX7_init wsX7_makes := goodIn_r _ [23, 5, 24, 12, 25, 26, 22, 27, 32, 33, 34, 35, 36, 37, 38, 39, 40, 41, 42, 43, 44, 45, 46, 47, 48, 49, 50] (by decide +kernel) (by decide +kernel)
set_option maxRecDepth 20000 in
theorem gX7_init_X7_makes : GoodIn wsX7_init (wsV RX7 50 RX7 yX7_makes wsX7_makes) := goodIn_app (goodIn_of _ (by decide +kernel)) ggX7_init_X7_makes
theorem dX7_init_0 : decode cX7_init 0 = .ok (.aload_n 0, 1) := by decide +kernel
theorem dX7_init_1 : decode cX7_init 1 = .ok (.invokespecial 1, 3) := by decide +kernel
theorem dX7_init_4 : decode cX7_init 4 = .ok (.aload_n 0, 1) := by decide +kernel
theorem dX7_init_5 : decode cX7_init 5 = .ok (.sipush 8480, 3) := by decide +kernel
theorem dX7_init_8 : decode cX7_init 8 = .ok (.newarray .int, 2) := by decide +kernel
theorem dX7_init_10 : decode cX7_init 10 = .ok (.putfield 7, 3) := by decide +kernel
theorem dX7_init_13 : decode cX7_init 13 = .ok (.aload_n 0, 1) := by decide +kernel
theorem dX7_init_14 : decode cX7_init 14 = .ok (.iconst 5, 1) := by decide +kernel
theorem dX7_init_15 : decode cX7_init 15 = .ok (.newarray .boolean, 2) := by decide +kernel
theorem dX7_init_17 : decode cX7_init 17 = .ok (.putfield 13, 3) := by decide +kernel
theorem dX7_init_20 : decode cX7_init 20 = .ok (.aload_n 0, 1) := by decide +kernel
theorem dX7_init_21 : decode cX7_init 21 = .ok (.bipush 64, 2) := by decide +kernel
theorem dX7_init_23 : decode cX7_init 23 = .ok (.newarray .int, 2) := by decide +kernel
theorem dX7_init_25 : decode cX7_init 25 = .ok (.putfield 17, 3) := by decide +kernel
theorem dX7_init_28 : decode cX7_init 28 = .ok (.aload_n 0, 1) := by decide +kernel
theorem dX7_init_29 : decode cX7_init 29 = .ok (.bipush 64, 2) := by decide +kernel
theorem dX7_init_31 : decode cX7_init 31 = .ok (.newarray .boolean, 2) := by decide +kernel
theorem dX7_init_33 : decode cX7_init 33 = .ok (.putfield 20, 3) := by decide +kernel
theorem dX7_init_36 : decode cX7_init 36 = .ok (.aload_n 0, 1) := by decide +kernel
theorem dX7_init_37 : decode cX7_init 37 = .ok (.sipush 512, 3) := by decide +kernel
theorem dX7_init_40 : decode cX7_init 40 = .ok (.newarray .boolean, 2) := by decide +kernel
theorem dX7_init_42 : decode cX7_init 42 = .ok (.putfield 23, 3) := by decide +kernel
theorem dX7_init_45 : decode cX7_init 45 = .ok (.aload_n 0, 1) := by decide +kernel
theorem dX7_init_46 : decode cX7_init 46 = .ok (.sipush 512, 3) := by decide +kernel
theorem dX7_init_49 : decode cX7_init 49 = .ok (.newarray .int, 2) := by decide +kernel
theorem dX7_init_51 : decode cX7_init 51 = .ok (.putfield 26, 3) := by decide +kernel
theorem dX7_init_54 : decode cX7_init 54 = .ok (.aload_n 0, 1) := by decide +kernel
theorem dX7_init_55 : decode cX7_init 55 = .ok (.bipush 32, 2) := by decide +kernel
theorem dX7_init_57 : decode cX7_init 57 = .ok (.newarray .boolean, 2) := by decide +kernel
theorem dX7_init_59 : decode cX7_init 59 = .ok (.putfield 29, 3) := by decide +kernel
theorem dX7_init_62 : decode cX7_init 62 = .ok (.aload_n 0, 1) := by decide +kernel
theorem dX7_init_63 : decode cX7_init 63 = .ok (.iconst 4, 1) := by decide +kernel
theorem dX7_init_64 : decode cX7_init 64 = .ok (.newarray .int, 2) := by decide +kernel
theorem dX7_init_66 : decode cX7_init 66 = .ok (.putfield 32, 3) := by decide +kernel
theorem dX7_init_69 : decode cX7_init 69 = .ok (.aload_n 0, 1) := by decide +kernel
theorem dX7_init_70 : decode cX7_init 70 = .ok (.bipush 30, 2) := by decide +kernel
theorem dX7_init_72 : decode cX7_init 72 = .ok (.newarray .int, 2) := by decide +kernel
theorem dX7_init_74 : decode cX7_init 74 = .ok (.putfield 35, 3) := by decide +kernel
theorem dX7_init_77 : decode cX7_init 77 = .ok (.aload_n 0, 1) := by decide +kernel
theorem dX7_init_78 : decode cX7_init 78 = .ok (.bipush 30, 2) := by decide +kernel
theorem dX7_init_80 : decode cX7_init 80 = .ok (.newarray .boolean, 2) := by decide +kernel
theorem dX7_init_82 : decode cX7_init 82 = .ok (.putfield 38, 3) := by decide +kernel
theorem dX7_init_85 : decode cX7_init 85 = .ok (.aload_n 0, 1) := by decide +kernel
theorem dX7_init_86 : decode cX7_init 86 = .ok (.bipush 30, 2) := by decide +kernel
theorem dX7_init_88 : decode cX7_init 88 = .ok (.newarray .boolean, 2) := by decide +kernel
theorem dX7_init_90 : decode cX7_init 90 = .ok (.putfield 41, 3) := by decide +kernel
theorem dX7_init_93 : decode cX7_init 93 = .ok (.aload_n 0, 1) := by decide +kernel
theorem dX7_init_94 : decode cX7_init 94 = .ok (.sipush 480, 3) := by decide +kernel
theorem dX7_init_97 : decode cX7_init 97 = .ok (.newarray .int, 2) := by decide +kernel
theorem dX7_init_99 : decode cX7_init 99 = .ok (.putfield 44, 3) := by decide +kernel
theorem dX7_init_102 : decode cX7_init 102 = .ok (.aload_n 0, 1) := by decide +kernel
theorem dX7_init_103 : decode cX7_init 103 = .ok (.bipush 40, 2) := by decide +kernel
theorem dX7_init_105 : decode cX7_init 105 = .ok (.newarray .int, 2) := by decide +kernel
theorem dX7_init_107 : decode cX7_init 107 = .ok (.putfield 47, 3) := by decide +kernel
theorem dX7_init_110 : decode cX7_init 110 = .ok (.iconst 0, 1) := by decide +kernel
theorem dX7_init_111 : decode cX7_init 111 = .ok (.istore_n 1, 1) := by decide +kernel
theorem dX7_init_112 : decode cX7_init 112 = .ok (.iload_n 1, 1) := by decide +kernel
theorem dX7_init_113 : decode cX7_init 113 = .ok (.sipush 160, 3) := by decide +kernel
theorem dX7_init_116 : decode cX7_init 116 = .ok (.if_icmp .ge 19, 3) := by decide +kernel
theorem dX7_init_119 : decode cX7_init 119 = .ok (.aload_n 0, 1) := by decide +kernel
theorem dX7_init_120 : decode cX7_init 120 = .ok (.getfield 7, 3) := by decide +kernel
theorem dX7_init_123 : decode cX7_init 123 = .ok (.bipush 53, 2) := by decide +kernel
theorem dX7_init_125 : decode cX7_init 125 = .ok (.iload_n 1, 1) := by decide +kernel
theorem dX7_init_126 : decode cX7_init 126 = .ok (.imul, 1) := by decide +kernel
theorem dX7_init_127 : decode cX7_init 127 = .ok (.iconst (-1), 1) := by decide +kernel
theorem dX7_init_128 : decode cX7_init 128 = .ok (.iastore, 1) := by decide +kernel
theorem dX7_init_129 : decode cX7_init 129 = .ok (.iinc 1 1, 3) := by decide +kernel
theorem dX7_init_132 : decode cX7_init 132 = .ok (.goto (-20), 3) := by decide +kernel
theorem dX7_init_135 : decode cX7_init 135 = .ok (.aload_n 0, 1) := by decide +kernel
theorem dX7_init_136 : decode cX7_init 136 = .ok (.iconst 0, 1) := by decide +kernel
theorem dX7_init_137 : decode cX7_init 137 = .ok (.iconst 1, 1) := by decide +kernel
theorem dX7_init_138 : decode cX7_init 138 = .ok (.bipush 15, 2) := by decide +kernel
theorem dX7_init_140 : decode cX7_init 140 = .ok (.iconst (-1), 1) := by decide +kernel
theorem dX7_init_141 : decode cX7_init 141 = .ok (.invokevirtual 50, 3) := by decide +kernel
theorem dX7_init_144 : decode cX7_init 144 = .ok (.aload_n 0, 1) := by decide +kernel
theorem dX7_init_145 : decode cX7_init 145 = .ok (.getfield 7, 3) := by decide +kernel
theorem dX7_init_148 : decode cX7_init 148 = .ok (.iconst 3, 1) := by decide +kernel
theorem dX7_init_149 : decode cX7_init 149 = .ok (.iconst 0, 1) := by decide +kernel
theorem dX7_init_150 : decode cX7_init 150 = .ok (.iastore, 1) := by decide +kernel
theorem dX7_init_151 : decode cX7_init 151 = .ok (.aload_n 0, 1) := by decide +kernel
theorem dX7_init_152 : decode cX7_init 152 = .ok (.getfield 13, 3) := by decide +kernel
theorem dX7_init_155 : decode cX7_init 155 = .ok (.iconst 0, 1) := by decide +kernel
theorem dX7_init_156 : decode cX7_init 156 = .ok (.iconst 1, 1) := by decide +kernel
theorem dX7_init_157 : decode cX7_init 157 = .ok (.bastore, 1) := by decide +kernel
theorem dX7_init_158 : decode cX7_init 158 = .ok (.aload_n 0, 1) := by decide +kernel
theorem dX7_init_159 : decode cX7_init 159 = .ok (.getfield 13, 3) := by decide +kernel
theorem dX7_init_162 : decode cX7_init 162 = .ok (.iconst 1, 1) := by decide +kernel
theorem dX7_init_163 : decode cX7_init 163 = .ok (.iconst 1, 1) := by decide +kernel
theorem dX7_init_164 : decode cX7_init 164 = .ok (.bastore, 1) := by decide +kernel
theorem dX7_init_165 : decode cX7_init 165 = .ok (.aload_n 0, 1) := by decide +kernel
theorem dX7_init_166 : decode cX7_init 166 = .ok (.iconst 0, 1) := by decide +kernel
theorem dX7_init_167 : decode cX7_init 167 = .ok (.iconst 1, 1) := by decide +kernel
theorem dX7_init_168 : decode cX7_init 168 = .ok (.invokevirtual 54, 3) := by decide +kernel
theorem dX7_init_171 : decode cX7_init 171 = .ok (.iconst 0, 1) := by decide +kernel
theorem dX7_init_172 : decode cX7_init 172 = .ok (.istore_n 1, 1) := by decide +kernel
theorem dX7_init_173 : decode cX7_init 173 = .ok (.iload_n 1, 1) := by decide +kernel
theorem dX7_init_174 : decode cX7_init 174 = .ok (.iconst 4, 1) := by decide +kernel
theorem dX7_init_175 : decode cX7_init 175 = .ok (.if_icmp .ge 17, 3) := by decide +kernel
theorem dX7_init_178 : decode cX7_init 178 = .ok (.aload_n 0, 1) := by decide +kernel
theorem dX7_init_179 : decode cX7_init 179 = .ok (.getfield 32, 3) := by decide +kernel
theorem dX7_init_182 : decode cX7_init 182 = .ok (.iload_n 1, 1) := by decide +kernel
theorem dX7_init_183 : decode cX7_init 183 = .ok (.bipush 64, 2) := by decide +kernel
theorem dX7_init_185 : decode cX7_init 185 = .ok (.iastore, 1) := by decide +kernel
theorem dX7_init_186 : decode cX7_init 186 = .ok (.iinc 1 1, 3) := by decide +kernel
theorem dX7_init_189 : decode cX7_init 189 = .ok (.goto (-16), 3) := by decide +kernel
theorem dX7_init_192 : decode cX7_init 192 = .ok (.return_, 1) := by decide +kernel
def f_X7_init : Option S1 := qj2 (fun (r112_1 : Int32 → S1 → Option (S1)) (y112_1_1 : Int32) (u112_1_0 : S1) => if 160 ≤ y112_1_1 then bn (f_X7_makes u112_1_0 0 1 15 (-1)) (fun z_3 => chk (inb 3 8480) (bv (st z_3 0 3 0) (fun u_4 => chk (inb 0 5) (bv (stz u_4 1 0 1) (fun u_5 => chk (inb 1 5) (bv (stz u_5 1 1 1) (fun u_6 => bn (f_X7_copies u_6 0 1) (fun z_7 => qj2 (fun (r173_8 : Int32 → S1 → Option (S1)) (y173_8_1 : Int32) (u173_8_0 : S1) => if 4 ≤ y173_8_1 then some u173_8_0 else chk (inb y173_8_1 4) (bv (st u173_8_0 8 y173_8_1 64) (fun u_10 => r173_8 (y173_8_1 + 1) u_10))) (fun k173_8 => k173_8 0 z_7))))))))) else chk (inb (53 * y112_1_1) 8480) (bv (st u112_1_0 0 (53 * y112_1_1) (-1)) (fun u_11 => r112_1 (y112_1_1 + 1) u_11))) (fun k112_1 => k112_1 0 z0)
def rmX7_init : Room := { frames := 2, cells := 13, slots := 10283, locals := 47 }
set_option maxHeartbeats 4000000 in
set_option maxRecDepth 100000 in
theorem c_X7_init (l : Launch) (D : va_G) (cI cZ cJ cT : ClassId) (h0 sz : Nat) (o : S1) (hf : f_X7_init = some o) : Met l yX7_init wsX7_init rmX7_init (va_Pc [.ref h0] (PW D cls (tys cI cZ cJ cT) ([(h0, .inr (7, [.null, .null, .null, .null, .null, .null, .null, .int 0, .null, .int 0, .null, .null, .null, .null, .null, .int 0, .int 0, .int 0, .int 0]))] : va_W) sz)) (QC D cls (fun a => wX7 cI cZ a o) h0 (va_A ([(h0, .inr (7, [.null, .null, .null, .null, .null, .null, .null, .int 0, .null, .int 0, .null, .null, .null, .null, .null, .int 0, .int 0, .int 0, .int 0]))] : va_W) sz)) 13 10283 (va_A ([(h0, .inr (7, [.null, .null, .null, .null, .null, .null, .null, .int 0, .null, .int 0, .null, .null, .null, .null, .null, .int 0, .int 0, .int 0, .int 0]))] : va_W) sz) := by
  refine Met.ofW (cc := cX7_init) (maxL := 2) (ret := none) (by decide) rfl ?_
  intro p e s m args below meth c s₁ B hml hv
  obtain ⟨hav, hsz, hP, hK, hD0⟩ := hv
  have hx := B.exec
  have hb := B.bytes
  have hr := B.returns
  have hlocks := B.notSynchronized
  have hts := atoms_spec (ws := wsX7_init) B.pre
  have hown : s.vm.findClass RX7 = some m.cls := findClass_of_methodNamed B.named
  have hin : meth.name = "<init>" := (name_of_methodNamed B.named B.method).1
  have i7 : ∀ w ∈ wsX70, w ∈ wsX7_init := fun w h => List.mem_cons_of_mem _ (List.mem_append_right _ h)
  have hk7 := hts (.fieldLink RX7 7 "InoderyModel" "s" "[I") (by decide +kernel)
  have hk13 := hts (.fieldLink RX7 13 "InoderyModel" "isGiven" "[Z") (by decide +kernel)
  have hk17 := hts (.fieldLink RX7 17 "InoderyModel" "number" "[I") (by decide +kernel)
  have hk20 := hts (.fieldLink RX7 20 "InoderyModel" "isBad" "[Z") (by decide +kernel)
  have hk23 := hts (.fieldLink RX7 23 "InoderyModel" "isDirty" "[Z") (by decide +kernel)
  have hk26 := hts (.fieldLink RX7 26 "InoderyModel" "cache" "[I") (by decide +kernel)
  have hk29 := hts (.fieldLink RX7 29 "InoderyModel" "hasError" "[Z") (by decide +kernel)
  have hk32 := hts (.fieldLink RX7 32 "InoderyModel" "quota" "[I") (by decide +kernel)
  have hk35 := hts (.fieldLink RX7 35 "InoderyModel" "of" "[I") (by decide +kernel)
  have hk38 := hts (.fieldLink RX7 38 "InoderyModel" "isWriting" "[Z") (by decide +kernel)
  have hk41 := hts (.fieldLink RX7 41 "InoderyModel" "isOpen" "[Z") (by decide +kernel)
  have hk44 := hts (.fieldLink RX7 44 "InoderyModel" "lock" "[I") (by decide +kernel)
  have hk47 := hts (.fieldLink RX7 47 "InoderyModel" "left" "[I") (by decide +kernel)
  subst hsz
  have hD := hD0.self (sz := s.heap.size)
  generalize hAe : va_A ([(h0, .inr (7, [.null, .null, .null, .null, .null, .null, .null, .int 0, .null, .int 0, .null, .null, .null, .null, .null, .int 0, .int 0, .int 0, .int 0]))] : va_W) s.heap.size = A at hD ⊢
  have hA : ∀ q : Nat, s.heap.size ≤ q → A q := fun q h => by rw [← hAe]; exact Or.inr h
  have hS : va_S A s.heap s.heap [] := va_S.rf
  refine Wq (fun Q hQ => ?_)
  refine W_entry hav (Nat.le_of_ble_eq_true rfl) (fun ls hl => ?_)
  have hl : lv_has ls 2 [(0, .ref h0)] := hl
  unfold f_X7_init at hf
  refine W_heap hP hS (fun H locs hP hS => ?_)
  refine lv_aload_n hx hb dX7_init_0 rfl (lv_at hl 0 rfl) ?_
  refine W.objInit hx hb hown (hts (.methodLink RX7 1 objectInit) (by decide +kernel)) (hts (.instanceMethod objectInit) (by decide +kernel)) (hts (.code objectInit ⟨#[0xb1]⟩ 1 none) (by decide +kernel)) rfl (by rw [hml]; exact hl.1) rfl dX7_init_1 (Nat.le_of_ble_eq_true rfl) (Nat.le_of_ble_eq_true rfl) ?_
  refine W.eq (g2 := F0 m 4 ls []) rfl ?_
  refine lv_aload_n hx hb dX7_init_4 rfl (lv_at hl 0 rfl) ?_
  refine lv_sipush (v := 8480) hx hb dX7_init_5 (by decide) ?_
  refine va_newa (atype := .int) (ty := .int) (N' := 8480) (a0 := (8480, .inl (fun _ => 0))) hx hb (hts (.arrayClass .int) (by decide +kernel)) rfl hK hP hD hS hA (fun _ => rfl) (by decide) (by decide) (Nat.le_of_ble_eq_true rfl) (Nat.le_of_ble_eq_true rfl) (Nat.le_of_ble_eq_true rfl) dX7_init_8 (fun q0 cA H hK1 hP hD hS => ?_)
  have eA : cI = cA := K_I hK hK1
  subst eA
  have hP : va_P D cls ([(h0, .inr (7, [.null, .null, .null, .null, .null, .null, .null, .int 0, .null, .int 0, .null, .null, .null, .null, .null, .int 0, .int 0, .int 0, .int 0])), (q0, .inl (cI, 8480, .inl (fun _ => 0)))] : va_W) H := hP
  have hD : va_D A ([(h0, .inr (7, [.null, .null, .null, .null, .null, .null, .null, .int 0, .null, .int 0, .null, .null, .null, .null, .null, .int 0, .int 0, .int 0, .int 0])), (q0, .inl (cI, 8480, .inl (fun _ => 0)))] : va_W) := hD
  refine W.cs (cells' := 1) (slots' := 8480) rfl rfl ?_
  refine va_putF (D := D) (ci := 7) (v := .ref q0) (ty := .array .int) (C := RX7) (T := TX7) (N := 19) hx hb hts i7 tyX7 tyX7_ok nmX7 hown hK hP hD hS 0 rfl rfl 0 (by decide) hk7 (fun _ h9 => h9) rfl hin rfl (by decide +kernel) rfl rfl (Nat.le_of_ble_eq_true rfl) dX7_init_10 (fun H locs hP hD hS => ?_)
  have hP : va_P D cls ([(h0, .inr (7, [.ref q0, .null, .null, .null, .null, .null, .null, .int 0, .null, .int 0, .null, .null, .null, .null, .null, .int 0, .int 0, .int 0, .int 0])), (q0, .inl (cI, 8480, .inl (fun _ => 0)))] : va_W) H := hP
  have hD : va_D A ([(h0, .inr (7, [.ref q0, .null, .null, .null, .null, .null, .null, .int 0, .null, .int 0, .null, .null, .null, .null, .null, .int 0, .int 0, .int 0, .int 0])), (q0, .inl (cI, 8480, .inl (fun _ => 0)))] : va_W) := hD
  refine lv_aload_n hx hb dX7_init_13 rfl (lv_at hl 0 rfl) ?_
  refine lv_iconst (v := 5) hx hb dX7_init_14 (by decide) ?_
  refine va_newa (atype := .boolean) (ty := .boolean) (N' := 5) (a0 := (5, .inl (fun _ => 0))) hx hb (hts (.arrayClass .boolean) (by decide +kernel)) rfl hK hP hD hS hA (fun _ => rfl) (by decide) (by decide) (Nat.le_of_ble_eq_true rfl) (Nat.le_of_ble_eq_true rfl) (Nat.le_of_ble_eq_true rfl) dX7_init_15 (fun q1 cA H hK1 hP hD hS => ?_)
  have eA : cZ = cA := K_Z hK hK1
  subst eA
  have hP : va_P D cls ([(h0, .inr (7, [.ref q0, .null, .null, .null, .null, .null, .null, .int 0, .null, .int 0, .null, .null, .null, .null, .null, .int 0, .int 0, .int 0, .int 0])), (q0, .inl (cI, 8480, .inl (fun _ => 0))), (q1, .inl (cZ, 5, .inl (fun _ => 0)))] : va_W) H := hP
  have hD : va_D A ([(h0, .inr (7, [.ref q0, .null, .null, .null, .null, .null, .null, .int 0, .null, .int 0, .null, .null, .null, .null, .null, .int 0, .int 0, .int 0, .int 0])), (q0, .inl (cI, 8480, .inl (fun _ => 0))), (q1, .inl (cZ, 5, .inl (fun _ => 0)))] : va_W) := hD
  refine W.cs (cells' := 2) (slots' := 8485) rfl rfl ?_
  refine va_putF (D := D) (ci := 7) (v := .ref q1) (ty := .array .boolean) (C := RX7) (T := TX7) (N := 19) hx hb hts i7 tyX7 tyX7_ok nmX7 hown hK hP hD hS 0 rfl rfl 1 (by decide) hk13 (fun _ h9 => h9) rfl hin rfl (by decide +kernel) rfl rfl (Nat.le_of_ble_eq_true rfl) dX7_init_17 (fun H locs hP hD hS => ?_)
  have hP : va_P D cls ([(h0, .inr (7, [.ref q0, .ref q1, .null, .null, .null, .null, .null, .int 0, .null, .int 0, .null, .null, .null, .null, .null, .int 0, .int 0, .int 0, .int 0])), (q0, .inl (cI, 8480, .inl (fun _ => 0))), (q1, .inl (cZ, 5, .inl (fun _ => 0)))] : va_W) H := hP
  have hD : va_D A ([(h0, .inr (7, [.ref q0, .ref q1, .null, .null, .null, .null, .null, .int 0, .null, .int 0, .null, .null, .null, .null, .null, .int 0, .int 0, .int 0, .int 0])), (q0, .inl (cI, 8480, .inl (fun _ => 0))), (q1, .inl (cZ, 5, .inl (fun _ => 0)))] : va_W) := hD
  refine lv_aload_n hx hb dX7_init_20 rfl (lv_at hl 0 rfl) ?_
  refine lv_bipush (v := 64) hx hb dX7_init_21 (by decide) ?_
  refine va_newa (atype := .int) (ty := .int) (N' := 64) (a0 := (64, .inl (fun _ => 0))) hx hb (hts (.arrayClass .int) (by decide +kernel)) rfl hK hP hD hS hA (fun _ => rfl) (by decide) (by decide) (Nat.le_of_ble_eq_true rfl) (Nat.le_of_ble_eq_true rfl) (Nat.le_of_ble_eq_true rfl) dX7_init_23 (fun q2 cA H hK1 hP hD hS => ?_)
  have eA : cI = cA := K_I hK hK1
  subst eA
  have hP : va_P D cls ([(h0, .inr (7, [.ref q0, .ref q1, .null, .null, .null, .null, .null, .int 0, .null, .int 0, .null, .null, .null, .null, .null, .int 0, .int 0, .int 0, .int 0])), (q0, .inl (cI, 8480, .inl (fun _ => 0))), (q1, .inl (cZ, 5, .inl (fun _ => 0))), (q2, .inl (cI, 64, .inl (fun _ => 0)))] : va_W) H := hP
  have hD : va_D A ([(h0, .inr (7, [.ref q0, .ref q1, .null, .null, .null, .null, .null, .int 0, .null, .int 0, .null, .null, .null, .null, .null, .int 0, .int 0, .int 0, .int 0])), (q0, .inl (cI, 8480, .inl (fun _ => 0))), (q1, .inl (cZ, 5, .inl (fun _ => 0))), (q2, .inl (cI, 64, .inl (fun _ => 0)))] : va_W) := hD
  refine W.cs (cells' := 3) (slots' := 8549) rfl rfl ?_
  refine va_putF (D := D) (ci := 7) (v := .ref q2) (ty := .array .int) (C := RX7) (T := TX7) (N := 19) hx hb hts i7 tyX7 tyX7_ok nmX7 hown hK hP hD hS 0 rfl rfl 2 (by decide) hk17 (fun _ h9 => h9) rfl hin rfl (by decide +kernel) rfl rfl (Nat.le_of_ble_eq_true rfl) dX7_init_25 (fun H locs hP hD hS => ?_)
  have hP : va_P D cls ([(h0, .inr (7, [.ref q0, .ref q1, .ref q2, .null, .null, .null, .null, .int 0, .null, .int 0, .null, .null, .null, .null, .null, .int 0, .int 0, .int 0, .int 0])), (q0, .inl (cI, 8480, .inl (fun _ => 0))), (q1, .inl (cZ, 5, .inl (fun _ => 0))), (q2, .inl (cI, 64, .inl (fun _ => 0)))] : va_W) H := hP
  have hD : va_D A ([(h0, .inr (7, [.ref q0, .ref q1, .ref q2, .null, .null, .null, .null, .int 0, .null, .int 0, .null, .null, .null, .null, .null, .int 0, .int 0, .int 0, .int 0])), (q0, .inl (cI, 8480, .inl (fun _ => 0))), (q1, .inl (cZ, 5, .inl (fun _ => 0))), (q2, .inl (cI, 64, .inl (fun _ => 0)))] : va_W) := hD
  refine lv_aload_n hx hb dX7_init_28 rfl (lv_at hl 0 rfl) ?_
  refine lv_bipush (v := 64) hx hb dX7_init_29 (by decide) ?_
  refine va_newa (atype := .boolean) (ty := .boolean) (N' := 64) (a0 := (64, .inl (fun _ => 0))) hx hb (hts (.arrayClass .boolean) (by decide +kernel)) rfl hK hP hD hS hA (fun _ => rfl) (by decide) (by decide) (Nat.le_of_ble_eq_true rfl) (Nat.le_of_ble_eq_true rfl) (Nat.le_of_ble_eq_true rfl) dX7_init_31 (fun q3 cA H hK1 hP hD hS => ?_)
  have eA : cZ = cA := K_Z hK hK1
  subst eA
  have hP : va_P D cls ([(h0, .inr (7, [.ref q0, .ref q1, .ref q2, .null, .null, .null, .null, .int 0, .null, .int 0, .null, .null, .null, .null, .null, .int 0, .int 0, .int 0, .int 0])), (q0, .inl (cI, 8480, .inl (fun _ => 0))), (q1, .inl (cZ, 5, .inl (fun _ => 0))), (q2, .inl (cI, 64, .inl (fun _ => 0))), (q3, .inl (cZ, 64, .inl (fun _ => 0)))] : va_W) H := hP
  have hD : va_D A ([(h0, .inr (7, [.ref q0, .ref q1, .ref q2, .null, .null, .null, .null, .int 0, .null, .int 0, .null, .null, .null, .null, .null, .int 0, .int 0, .int 0, .int 0])), (q0, .inl (cI, 8480, .inl (fun _ => 0))), (q1, .inl (cZ, 5, .inl (fun _ => 0))), (q2, .inl (cI, 64, .inl (fun _ => 0))), (q3, .inl (cZ, 64, .inl (fun _ => 0)))] : va_W) := hD
  refine W.cs (cells' := 4) (slots' := 8613) rfl rfl ?_
  refine va_putF (D := D) (ci := 7) (v := .ref q3) (ty := .array .boolean) (C := RX7) (T := TX7) (N := 19) hx hb hts i7 tyX7 tyX7_ok nmX7 hown hK hP hD hS 0 rfl rfl 3 (by decide) hk20 (fun _ h9 => h9) rfl hin rfl (by decide +kernel) rfl rfl (Nat.le_of_ble_eq_true rfl) dX7_init_33 (fun H locs hP hD hS => ?_)
  have hP : va_P D cls ([(h0, .inr (7, [.ref q0, .ref q1, .ref q2, .ref q3, .null, .null, .null, .int 0, .null, .int 0, .null, .null, .null, .null, .null, .int 0, .int 0, .int 0, .int 0])), (q0, .inl (cI, 8480, .inl (fun _ => 0))), (q1, .inl (cZ, 5, .inl (fun _ => 0))), (q2, .inl (cI, 64, .inl (fun _ => 0))), (q3, .inl (cZ, 64, .inl (fun _ => 0)))] : va_W) H := hP
  have hD : va_D A ([(h0, .inr (7, [.ref q0, .ref q1, .ref q2, .ref q3, .null, .null, .null, .int 0, .null, .int 0, .null, .null, .null, .null, .null, .int 0, .int 0, .int 0, .int 0])), (q0, .inl (cI, 8480, .inl (fun _ => 0))), (q1, .inl (cZ, 5, .inl (fun _ => 0))), (q2, .inl (cI, 64, .inl (fun _ => 0))), (q3, .inl (cZ, 64, .inl (fun _ => 0)))] : va_W) := hD
  refine lv_aload_n hx hb dX7_init_36 rfl (lv_at hl 0 rfl) ?_
  refine lv_sipush (v := 512) hx hb dX7_init_37 (by decide) ?_
  refine va_newa (atype := .boolean) (ty := .boolean) (N' := 512) (a0 := (512, .inl (fun _ => 0))) hx hb (hts (.arrayClass .boolean) (by decide +kernel)) rfl hK hP hD hS hA (fun _ => rfl) (by decide) (by decide) (Nat.le_of_ble_eq_true rfl) (Nat.le_of_ble_eq_true rfl) (Nat.le_of_ble_eq_true rfl) dX7_init_40 (fun q4 cA H hK1 hP hD hS => ?_)
  have eA : cZ = cA := K_Z hK hK1
  subst eA
  have hP : va_P D cls ([(h0, .inr (7, [.ref q0, .ref q1, .ref q2, .ref q3, .null, .null, .null, .int 0, .null, .int 0, .null, .null, .null, .null, .null, .int 0, .int 0, .int 0, .int 0])), (q0, .inl (cI, 8480, .inl (fun _ => 0))), (q1, .inl (cZ, 5, .inl (fun _ => 0))), (q2, .inl (cI, 64, .inl (fun _ => 0))), (q3, .inl (cZ, 64, .inl (fun _ => 0))), (q4, .inl (cZ, 512, .inl (fun _ => 0)))] : va_W) H := hP
  have hD : va_D A ([(h0, .inr (7, [.ref q0, .ref q1, .ref q2, .ref q3, .null, .null, .null, .int 0, .null, .int 0, .null, .null, .null, .null, .null, .int 0, .int 0, .int 0, .int 0])), (q0, .inl (cI, 8480, .inl (fun _ => 0))), (q1, .inl (cZ, 5, .inl (fun _ => 0))), (q2, .inl (cI, 64, .inl (fun _ => 0))), (q3, .inl (cZ, 64, .inl (fun _ => 0))), (q4, .inl (cZ, 512, .inl (fun _ => 0)))] : va_W) := hD
  refine W.cs (cells' := 5) (slots' := 9125) rfl rfl ?_
  refine va_putF (D := D) (ci := 7) (v := .ref q4) (ty := .array .boolean) (C := RX7) (T := TX7) (N := 19) hx hb hts i7 tyX7 tyX7_ok nmX7 hown hK hP hD hS 0 rfl rfl 4 (by decide) hk23 (fun _ h9 => h9) rfl hin rfl (by decide +kernel) rfl rfl (Nat.le_of_ble_eq_true rfl) dX7_init_42 (fun H locs hP hD hS => ?_)
  have hP : va_P D cls ([(h0, .inr (7, [.ref q0, .ref q1, .ref q2, .ref q3, .ref q4, .null, .null, .int 0, .null, .int 0, .null, .null, .null, .null, .null, .int 0, .int 0, .int 0, .int 0])), (q0, .inl (cI, 8480, .inl (fun _ => 0))), (q1, .inl (cZ, 5, .inl (fun _ => 0))), (q2, .inl (cI, 64, .inl (fun _ => 0))), (q3, .inl (cZ, 64, .inl (fun _ => 0))), (q4, .inl (cZ, 512, .inl (fun _ => 0)))] : va_W) H := hP
  have hD : va_D A ([(h0, .inr (7, [.ref q0, .ref q1, .ref q2, .ref q3, .ref q4, .null, .null, .int 0, .null, .int 0, .null, .null, .null, .null, .null, .int 0, .int 0, .int 0, .int 0])), (q0, .inl (cI, 8480, .inl (fun _ => 0))), (q1, .inl (cZ, 5, .inl (fun _ => 0))), (q2, .inl (cI, 64, .inl (fun _ => 0))), (q3, .inl (cZ, 64, .inl (fun _ => 0))), (q4, .inl (cZ, 512, .inl (fun _ => 0)))] : va_W) := hD
  refine lv_aload_n hx hb dX7_init_45 rfl (lv_at hl 0 rfl) ?_
  refine lv_sipush (v := 512) hx hb dX7_init_46 (by decide) ?_
  refine va_newa (atype := .int) (ty := .int) (N' := 512) (a0 := (512, .inl (fun _ => 0))) hx hb (hts (.arrayClass .int) (by decide +kernel)) rfl hK hP hD hS hA (fun _ => rfl) (by decide) (by decide) (Nat.le_of_ble_eq_true rfl) (Nat.le_of_ble_eq_true rfl) (Nat.le_of_ble_eq_true rfl) dX7_init_49 (fun q5 cA H hK1 hP hD hS => ?_)
  have eA : cI = cA := K_I hK hK1
  subst eA
  have hP : va_P D cls ([(h0, .inr (7, [.ref q0, .ref q1, .ref q2, .ref q3, .ref q4, .null, .null, .int 0, .null, .int 0, .null, .null, .null, .null, .null, .int 0, .int 0, .int 0, .int 0])), (q0, .inl (cI, 8480, .inl (fun _ => 0))), (q1, .inl (cZ, 5, .inl (fun _ => 0))), (q2, .inl (cI, 64, .inl (fun _ => 0))), (q3, .inl (cZ, 64, .inl (fun _ => 0))), (q4, .inl (cZ, 512, .inl (fun _ => 0))), (q5, .inl (cI, 512, .inl (fun _ => 0)))] : va_W) H := hP
  have hD : va_D A ([(h0, .inr (7, [.ref q0, .ref q1, .ref q2, .ref q3, .ref q4, .null, .null, .int 0, .null, .int 0, .null, .null, .null, .null, .null, .int 0, .int 0, .int 0, .int 0])), (q0, .inl (cI, 8480, .inl (fun _ => 0))), (q1, .inl (cZ, 5, .inl (fun _ => 0))), (q2, .inl (cI, 64, .inl (fun _ => 0))), (q3, .inl (cZ, 64, .inl (fun _ => 0))), (q4, .inl (cZ, 512, .inl (fun _ => 0))), (q5, .inl (cI, 512, .inl (fun _ => 0)))] : va_W) := hD
  refine W.cs (cells' := 6) (slots' := 9637) rfl rfl ?_
  refine va_putF (D := D) (ci := 7) (v := .ref q5) (ty := .array .int) (C := RX7) (T := TX7) (N := 19) hx hb hts i7 tyX7 tyX7_ok nmX7 hown hK hP hD hS 0 rfl rfl 5 (by decide) hk26 (fun _ h9 => h9) rfl hin rfl (by decide +kernel) rfl rfl (Nat.le_of_ble_eq_true rfl) dX7_init_51 (fun H locs hP hD hS => ?_)
  have hP : va_P D cls ([(h0, .inr (7, [.ref q0, .ref q1, .ref q2, .ref q3, .ref q4, .ref q5, .null, .int 0, .null, .int 0, .null, .null, .null, .null, .null, .int 0, .int 0, .int 0, .int 0])), (q0, .inl (cI, 8480, .inl (fun _ => 0))), (q1, .inl (cZ, 5, .inl (fun _ => 0))), (q2, .inl (cI, 64, .inl (fun _ => 0))), (q3, .inl (cZ, 64, .inl (fun _ => 0))), (q4, .inl (cZ, 512, .inl (fun _ => 0))), (q5, .inl (cI, 512, .inl (fun _ => 0)))] : va_W) H := hP
  have hD : va_D A ([(h0, .inr (7, [.ref q0, .ref q1, .ref q2, .ref q3, .ref q4, .ref q5, .null, .int 0, .null, .int 0, .null, .null, .null, .null, .null, .int 0, .int 0, .int 0, .int 0])), (q0, .inl (cI, 8480, .inl (fun _ => 0))), (q1, .inl (cZ, 5, .inl (fun _ => 0))), (q2, .inl (cI, 64, .inl (fun _ => 0))), (q3, .inl (cZ, 64, .inl (fun _ => 0))), (q4, .inl (cZ, 512, .inl (fun _ => 0))), (q5, .inl (cI, 512, .inl (fun _ => 0)))] : va_W) := hD
  refine lv_aload_n hx hb dX7_init_54 rfl (lv_at hl 0 rfl) ?_
  refine lv_bipush (v := 32) hx hb dX7_init_55 (by decide) ?_
  refine va_newa (atype := .boolean) (ty := .boolean) (N' := 32) (a0 := (32, .inl (fun _ => 0))) hx hb (hts (.arrayClass .boolean) (by decide +kernel)) rfl hK hP hD hS hA (fun _ => rfl) (by decide) (by decide) (Nat.le_of_ble_eq_true rfl) (Nat.le_of_ble_eq_true rfl) (Nat.le_of_ble_eq_true rfl) dX7_init_57 (fun q6 cA H hK1 hP hD hS => ?_)
  have eA : cZ = cA := K_Z hK hK1
  subst eA
  have hP : va_P D cls ([(h0, .inr (7, [.ref q0, .ref q1, .ref q2, .ref q3, .ref q4, .ref q5, .null, .int 0, .null, .int 0, .null, .null, .null, .null, .null, .int 0, .int 0, .int 0, .int 0])), (q0, .inl (cI, 8480, .inl (fun _ => 0))), (q1, .inl (cZ, 5, .inl (fun _ => 0))), (q2, .inl (cI, 64, .inl (fun _ => 0))), (q3, .inl (cZ, 64, .inl (fun _ => 0))), (q4, .inl (cZ, 512, .inl (fun _ => 0))), (q5, .inl (cI, 512, .inl (fun _ => 0))), (q6, .inl (cZ, 32, .inl (fun _ => 0)))] : va_W) H := hP
  have hD : va_D A ([(h0, .inr (7, [.ref q0, .ref q1, .ref q2, .ref q3, .ref q4, .ref q5, .null, .int 0, .null, .int 0, .null, .null, .null, .null, .null, .int 0, .int 0, .int 0, .int 0])), (q0, .inl (cI, 8480, .inl (fun _ => 0))), (q1, .inl (cZ, 5, .inl (fun _ => 0))), (q2, .inl (cI, 64, .inl (fun _ => 0))), (q3, .inl (cZ, 64, .inl (fun _ => 0))), (q4, .inl (cZ, 512, .inl (fun _ => 0))), (q5, .inl (cI, 512, .inl (fun _ => 0))), (q6, .inl (cZ, 32, .inl (fun _ => 0)))] : va_W) := hD
  refine W.cs (cells' := 7) (slots' := 9669) rfl rfl ?_
  refine va_putF (D := D) (ci := 7) (v := .ref q6) (ty := .array .boolean) (C := RX7) (T := TX7) (N := 19) hx hb hts i7 tyX7 tyX7_ok nmX7 hown hK hP hD hS 0 rfl rfl 6 (by decide) hk29 (fun _ h9 => h9) rfl hin rfl (by decide +kernel) rfl rfl (Nat.le_of_ble_eq_true rfl) dX7_init_59 (fun H locs hP hD hS => ?_)
  have hP : va_P D cls ([(h0, .inr (7, [.ref q0, .ref q1, .ref q2, .ref q3, .ref q4, .ref q5, .ref q6, .int 0, .null, .int 0, .null, .null, .null, .null, .null, .int 0, .int 0, .int 0, .int 0])), (q0, .inl (cI, 8480, .inl (fun _ => 0))), (q1, .inl (cZ, 5, .inl (fun _ => 0))), (q2, .inl (cI, 64, .inl (fun _ => 0))), (q3, .inl (cZ, 64, .inl (fun _ => 0))), (q4, .inl (cZ, 512, .inl (fun _ => 0))), (q5, .inl (cI, 512, .inl (fun _ => 0))), (q6, .inl (cZ, 32, .inl (fun _ => 0)))] : va_W) H := hP
  have hD : va_D A ([(h0, .inr (7, [.ref q0, .ref q1, .ref q2, .ref q3, .ref q4, .ref q5, .ref q6, .int 0, .null, .int 0, .null, .null, .null, .null, .null, .int 0, .int 0, .int 0, .int 0])), (q0, .inl (cI, 8480, .inl (fun _ => 0))), (q1, .inl (cZ, 5, .inl (fun _ => 0))), (q2, .inl (cI, 64, .inl (fun _ => 0))), (q3, .inl (cZ, 64, .inl (fun _ => 0))), (q4, .inl (cZ, 512, .inl (fun _ => 0))), (q5, .inl (cI, 512, .inl (fun _ => 0))), (q6, .inl (cZ, 32, .inl (fun _ => 0)))] : va_W) := hD
  refine lv_aload_n hx hb dX7_init_62 rfl (lv_at hl 0 rfl) ?_
  refine lv_iconst (v := 4) hx hb dX7_init_63 (by decide) ?_
  refine va_newa (atype := .int) (ty := .int) (N' := 4) (a0 := (4, .inl (fun _ => 0))) hx hb (hts (.arrayClass .int) (by decide +kernel)) rfl hK hP hD hS hA (fun _ => rfl) (by decide) (by decide) (Nat.le_of_ble_eq_true rfl) (Nat.le_of_ble_eq_true rfl) (Nat.le_of_ble_eq_true rfl) dX7_init_64 (fun q7 cA H hK1 hP hD hS => ?_)
  have eA : cI = cA := K_I hK hK1
  subst eA
  have hP : va_P D cls ([(h0, .inr (7, [.ref q0, .ref q1, .ref q2, .ref q3, .ref q4, .ref q5, .ref q6, .int 0, .null, .int 0, .null, .null, .null, .null, .null, .int 0, .int 0, .int 0, .int 0])), (q0, .inl (cI, 8480, .inl (fun _ => 0))), (q1, .inl (cZ, 5, .inl (fun _ => 0))), (q2, .inl (cI, 64, .inl (fun _ => 0))), (q3, .inl (cZ, 64, .inl (fun _ => 0))), (q4, .inl (cZ, 512, .inl (fun _ => 0))), (q5, .inl (cI, 512, .inl (fun _ => 0))), (q6, .inl (cZ, 32, .inl (fun _ => 0))), (q7, .inl (cI, 4, .inl (fun _ => 0)))] : va_W) H := hP
  have hD : va_D A ([(h0, .inr (7, [.ref q0, .ref q1, .ref q2, .ref q3, .ref q4, .ref q5, .ref q6, .int 0, .null, .int 0, .null, .null, .null, .null, .null, .int 0, .int 0, .int 0, .int 0])), (q0, .inl (cI, 8480, .inl (fun _ => 0))), (q1, .inl (cZ, 5, .inl (fun _ => 0))), (q2, .inl (cI, 64, .inl (fun _ => 0))), (q3, .inl (cZ, 64, .inl (fun _ => 0))), (q4, .inl (cZ, 512, .inl (fun _ => 0))), (q5, .inl (cI, 512, .inl (fun _ => 0))), (q6, .inl (cZ, 32, .inl (fun _ => 0))), (q7, .inl (cI, 4, .inl (fun _ => 0)))] : va_W) := hD
  refine W.cs (cells' := 8) (slots' := 9673) rfl rfl ?_
  refine va_putF (D := D) (ci := 7) (v := .ref q7) (ty := .array .int) (C := RX7) (T := TX7) (N := 19) hx hb hts i7 tyX7 tyX7_ok nmX7 hown hK hP hD hS 0 rfl rfl 8 (by decide) hk32 (fun _ h9 => h9) rfl hin rfl (by decide +kernel) rfl rfl (Nat.le_of_ble_eq_true rfl) dX7_init_66 (fun H locs hP hD hS => ?_)
  have hP : va_P D cls ([(h0, .inr (7, [.ref q0, .ref q1, .ref q2, .ref q3, .ref q4, .ref q5, .ref q6, .int 0, .ref q7, .int 0, .null, .null, .null, .null, .null, .int 0, .int 0, .int 0, .int 0])), (q0, .inl (cI, 8480, .inl (fun _ => 0))), (q1, .inl (cZ, 5, .inl (fun _ => 0))), (q2, .inl (cI, 64, .inl (fun _ => 0))), (q3, .inl (cZ, 64, .inl (fun _ => 0))), (q4, .inl (cZ, 512, .inl (fun _ => 0))), (q5, .inl (cI, 512, .inl (fun _ => 0))), (q6, .inl (cZ, 32, .inl (fun _ => 0))), (q7, .inl (cI, 4, .inl (fun _ => 0)))] : va_W) H := hP
  have hD : va_D A ([(h0, .inr (7, [.ref q0, .ref q1, .ref q2, .ref q3, .ref q4, .ref q5, .ref q6, .int 0, .ref q7, .int 0, .null, .null, .null, .null, .null, .int 0, .int 0, .int 0, .int 0])), (q0, .inl (cI, 8480, .inl (fun _ => 0))), (q1, .inl (cZ, 5, .inl (fun _ => 0))), (q2, .inl (cI, 64, .inl (fun _ => 0))), (q3, .inl (cZ, 64, .inl (fun _ => 0))), (q4, .inl (cZ, 512, .inl (fun _ => 0))), (q5, .inl (cI, 512, .inl (fun _ => 0))), (q6, .inl (cZ, 32, .inl (fun _ => 0))), (q7, .inl (cI, 4, .inl (fun _ => 0)))] : va_W) := hD
  refine lv_aload_n hx hb dX7_init_69 rfl (lv_at hl 0 rfl) ?_
  refine lv_bipush (v := 30) hx hb dX7_init_70 (by decide) ?_
  refine va_newa (atype := .int) (ty := .int) (N' := 30) (a0 := (30, .inl (fun _ => 0))) hx hb (hts (.arrayClass .int) (by decide +kernel)) rfl hK hP hD hS hA (fun _ => rfl) (by decide) (by decide) (Nat.le_of_ble_eq_true rfl) (Nat.le_of_ble_eq_true rfl) (Nat.le_of_ble_eq_true rfl) dX7_init_72 (fun q8 cA H hK1 hP hD hS => ?_)
  have eA : cI = cA := K_I hK hK1
  subst eA
  have hP : va_P D cls ([(h0, .inr (7, [.ref q0, .ref q1, .ref q2, .ref q3, .ref q4, .ref q5, .ref q6, .int 0, .ref q7, .int 0, .null, .null, .null, .null, .null, .int 0, .int 0, .int 0, .int 0])), (q0, .inl (cI, 8480, .inl (fun _ => 0))), (q1, .inl (cZ, 5, .inl (fun _ => 0))), (q2, .inl (cI, 64, .inl (fun _ => 0))), (q3, .inl (cZ, 64, .inl (fun _ => 0))), (q4, .inl (cZ, 512, .inl (fun _ => 0))), (q5, .inl (cI, 512, .inl (fun _ => 0))), (q6, .inl (cZ, 32, .inl (fun _ => 0))), (q7, .inl (cI, 4, .inl (fun _ => 0))), (q8, .inl (cI, 30, .inl (fun _ => 0)))] : va_W) H := hP
  have hD : va_D A ([(h0, .inr (7, [.ref q0, .ref q1, .ref q2, .ref q3, .ref q4, .ref q5, .ref q6, .int 0, .ref q7, .int 0, .null, .null, .null, .null, .null, .int 0, .int 0, .int 0, .int 0])), (q0, .inl (cI, 8480, .inl (fun _ => 0))), (q1, .inl (cZ, 5, .inl (fun _ => 0))), (q2, .inl (cI, 64, .inl (fun _ => 0))), (q3, .inl (cZ, 64, .inl (fun _ => 0))), (q4, .inl (cZ, 512, .inl (fun _ => 0))), (q5, .inl (cI, 512, .inl (fun _ => 0))), (q6, .inl (cZ, 32, .inl (fun _ => 0))), (q7, .inl (cI, 4, .inl (fun _ => 0))), (q8, .inl (cI, 30, .inl (fun _ => 0)))] : va_W) := hD
  refine W.cs (cells' := 9) (slots' := 9703) rfl rfl ?_
  refine va_putF (D := D) (ci := 7) (v := .ref q8) (ty := .array .int) (C := RX7) (T := TX7) (N := 19) hx hb hts i7 tyX7 tyX7_ok nmX7 hown hK hP hD hS 0 rfl rfl 10 (by decide) hk35 (fun _ h9 => h9) rfl hin rfl (by decide +kernel) rfl rfl (Nat.le_of_ble_eq_true rfl) dX7_init_74 (fun H locs hP hD hS => ?_)
  have hP : va_P D cls ([(h0, .inr (7, [.ref q0, .ref q1, .ref q2, .ref q3, .ref q4, .ref q5, .ref q6, .int 0, .ref q7, .int 0, .ref q8, .null, .null, .null, .null, .int 0, .int 0, .int 0, .int 0])), (q0, .inl (cI, 8480, .inl (fun _ => 0))), (q1, .inl (cZ, 5, .inl (fun _ => 0))), (q2, .inl (cI, 64, .inl (fun _ => 0))), (q3, .inl (cZ, 64, .inl (fun _ => 0))), (q4, .inl (cZ, 512, .inl (fun _ => 0))), (q5, .inl (cI, 512, .inl (fun _ => 0))), (q6, .inl (cZ, 32, .inl (fun _ => 0))), (q7, .inl (cI, 4, .inl (fun _ => 0))), (q8, .inl (cI, 30, .inl (fun _ => 0)))] : va_W) H := hP
  have hD : va_D A ([(h0, .inr (7, [.ref q0, .ref q1, .ref q2, .ref q3, .ref q4, .ref q5, .ref q6, .int 0, .ref q7, .int 0, .ref q8, .null, .null, .null, .null, .int 0, .int 0, .int 0, .int 0])), (q0, .inl (cI, 8480, .inl (fun _ => 0))), (q1, .inl (cZ, 5, .inl (fun _ => 0))), (q2, .inl (cI, 64, .inl (fun _ => 0))), (q3, .inl (cZ, 64, .inl (fun _ => 0))), (q4, .inl (cZ, 512, .inl (fun _ => 0))), (q5, .inl (cI, 512, .inl (fun _ => 0))), (q6, .inl (cZ, 32, .inl (fun _ => 0))), (q7, .inl (cI, 4, .inl (fun _ => 0))), (q8, .inl (cI, 30, .inl (fun _ => 0)))] : va_W) := hD
  refine lv_aload_n hx hb dX7_init_77 rfl (lv_at hl 0 rfl) ?_
  refine lv_bipush (v := 30) hx hb dX7_init_78 (by decide) ?_
  refine va_newa (atype := .boolean) (ty := .boolean) (N' := 30) (a0 := (30, .inl (fun _ => 0))) hx hb (hts (.arrayClass .boolean) (by decide +kernel)) rfl hK hP hD hS hA (fun _ => rfl) (by decide) (by decide) (Nat.le_of_ble_eq_true rfl) (Nat.le_of_ble_eq_true rfl) (Nat.le_of_ble_eq_true rfl) dX7_init_80 (fun q9 cA H hK1 hP hD hS => ?_)
  have eA : cZ = cA := K_Z hK hK1
  subst eA
  have hP : va_P D cls ([(h0, .inr (7, [.ref q0, .ref q1, .ref q2, .ref q3, .ref q4, .ref q5, .ref q6, .int 0, .ref q7, .int 0, .ref q8, .null, .null, .null, .null, .int 0, .int 0, .int 0, .int 0])), (q0, .inl (cI, 8480, .inl (fun _ => 0))), (q1, .inl (cZ, 5, .inl (fun _ => 0))), (q2, .inl (cI, 64, .inl (fun _ => 0))), (q3, .inl (cZ, 64, .inl (fun _ => 0))), (q4, .inl (cZ, 512, .inl (fun _ => 0))), (q5, .inl (cI, 512, .inl (fun _ => 0))), (q6, .inl (cZ, 32, .inl (fun _ => 0))), (q7, .inl (cI, 4, .inl (fun _ => 0))), (q8, .inl (cI, 30, .inl (fun _ => 0))), (q9, .inl (cZ, 30, .inl (fun _ => 0)))] : va_W) H := hP
  have hD : va_D A ([(h0, .inr (7, [.ref q0, .ref q1, .ref q2, .ref q3, .ref q4, .ref q5, .ref q6, .int 0, .ref q7, .int 0, .ref q8, .null, .null, .null, .null, .int 0, .int 0, .int 0, .int 0])), (q0, .inl (cI, 8480, .inl (fun _ => 0))), (q1, .inl (cZ, 5, .inl (fun _ => 0))), (q2, .inl (cI, 64, .inl (fun _ => 0))), (q3, .inl (cZ, 64, .inl (fun _ => 0))), (q4, .inl (cZ, 512, .inl (fun _ => 0))), (q5, .inl (cI, 512, .inl (fun _ => 0))), (q6, .inl (cZ, 32, .inl (fun _ => 0))), (q7, .inl (cI, 4, .inl (fun _ => 0))), (q8, .inl (cI, 30, .inl (fun _ => 0))), (q9, .inl (cZ, 30, .inl (fun _ => 0)))] : va_W) := hD
  refine W.cs (cells' := 10) (slots' := 9733) rfl rfl ?_
  refine va_putF (D := D) (ci := 7) (v := .ref q9) (ty := .array .boolean) (C := RX7) (T := TX7) (N := 19) hx hb hts i7 tyX7 tyX7_ok nmX7 hown hK hP hD hS 0 rfl rfl 11 (by decide) hk38 (fun _ h9 => h9) rfl hin rfl (by decide +kernel) rfl rfl (Nat.le_of_ble_eq_true rfl) dX7_init_82 (fun H locs hP hD hS => ?_)
  have hP : va_P D cls ([(h0, .inr (7, [.ref q0, .ref q1, .ref q2, .ref q3, .ref q4, .ref q5, .ref q6, .int 0, .ref q7, .int 0, .ref q8, .ref q9, .null, .null, .null, .int 0, .int 0, .int 0, .int 0])), (q0, .inl (cI, 8480, .inl (fun _ => 0))), (q1, .inl (cZ, 5, .inl (fun _ => 0))), (q2, .inl (cI, 64, .inl (fun _ => 0))), (q3, .inl (cZ, 64, .inl (fun _ => 0))), (q4, .inl (cZ, 512, .inl (fun _ => 0))), (q5, .inl (cI, 512, .inl (fun _ => 0))), (q6, .inl (cZ, 32, .inl (fun _ => 0))), (q7, .inl (cI, 4, .inl (fun _ => 0))), (q8, .inl (cI, 30, .inl (fun _ => 0))), (q9, .inl (cZ, 30, .inl (fun _ => 0)))] : va_W) H := hP
  have hD : va_D A ([(h0, .inr (7, [.ref q0, .ref q1, .ref q2, .ref q3, .ref q4, .ref q5, .ref q6, .int 0, .ref q7, .int 0, .ref q8, .ref q9, .null, .null, .null, .int 0, .int 0, .int 0, .int 0])), (q0, .inl (cI, 8480, .inl (fun _ => 0))), (q1, .inl (cZ, 5, .inl (fun _ => 0))), (q2, .inl (cI, 64, .inl (fun _ => 0))), (q3, .inl (cZ, 64, .inl (fun _ => 0))), (q4, .inl (cZ, 512, .inl (fun _ => 0))), (q5, .inl (cI, 512, .inl (fun _ => 0))), (q6, .inl (cZ, 32, .inl (fun _ => 0))), (q7, .inl (cI, 4, .inl (fun _ => 0))), (q8, .inl (cI, 30, .inl (fun _ => 0))), (q9, .inl (cZ, 30, .inl (fun _ => 0)))] : va_W) := hD
  refine lv_aload_n hx hb dX7_init_85 rfl (lv_at hl 0 rfl) ?_
  refine lv_bipush (v := 30) hx hb dX7_init_86 (by decide) ?_
  refine va_newa (atype := .boolean) (ty := .boolean) (N' := 30) (a0 := (30, .inl (fun _ => 0))) hx hb (hts (.arrayClass .boolean) (by decide +kernel)) rfl hK hP hD hS hA (fun _ => rfl) (by decide) (by decide) (Nat.le_of_ble_eq_true rfl) (Nat.le_of_ble_eq_true rfl) (Nat.le_of_ble_eq_true rfl) dX7_init_88 (fun q10 cA H hK1 hP hD hS => ?_)
  have eA : cZ = cA := K_Z hK hK1
  subst eA
  have hP : va_P D cls ([(h0, .inr (7, [.ref q0, .ref q1, .ref q2, .ref q3, .ref q4, .ref q5, .ref q6, .int 0, .ref q7, .int 0, .ref q8, .ref q9, .null, .null, .null, .int 0, .int 0, .int 0, .int 0])), (q0, .inl (cI, 8480, .inl (fun _ => 0))), (q1, .inl (cZ, 5, .inl (fun _ => 0))), (q2, .inl (cI, 64, .inl (fun _ => 0))), (q3, .inl (cZ, 64, .inl (fun _ => 0))), (q4, .inl (cZ, 512, .inl (fun _ => 0))), (q5, .inl (cI, 512, .inl (fun _ => 0))), (q6, .inl (cZ, 32, .inl (fun _ => 0))), (q7, .inl (cI, 4, .inl (fun _ => 0))), (q8, .inl (cI, 30, .inl (fun _ => 0))), (q9, .inl (cZ, 30, .inl (fun _ => 0))), (q10, .inl (cZ, 30, .inl (fun _ => 0)))] : va_W) H := hP
  have hD : va_D A ([(h0, .inr (7, [.ref q0, .ref q1, .ref q2, .ref q3, .ref q4, .ref q5, .ref q6, .int 0, .ref q7, .int 0, .ref q8, .ref q9, .null, .null, .null, .int 0, .int 0, .int 0, .int 0])), (q0, .inl (cI, 8480, .inl (fun _ => 0))), (q1, .inl (cZ, 5, .inl (fun _ => 0))), (q2, .inl (cI, 64, .inl (fun _ => 0))), (q3, .inl (cZ, 64, .inl (fun _ => 0))), (q4, .inl (cZ, 512, .inl (fun _ => 0))), (q5, .inl (cI, 512, .inl (fun _ => 0))), (q6, .inl (cZ, 32, .inl (fun _ => 0))), (q7, .inl (cI, 4, .inl (fun _ => 0))), (q8, .inl (cI, 30, .inl (fun _ => 0))), (q9, .inl (cZ, 30, .inl (fun _ => 0))), (q10, .inl (cZ, 30, .inl (fun _ => 0)))] : va_W) := hD
  refine W.cs (cells' := 11) (slots' := 9763) rfl rfl ?_
  refine va_putF (D := D) (ci := 7) (v := .ref q10) (ty := .array .boolean) (C := RX7) (T := TX7) (N := 19) hx hb hts i7 tyX7 tyX7_ok nmX7 hown hK hP hD hS 0 rfl rfl 12 (by decide) hk41 (fun _ h9 => h9) rfl hin rfl (by decide +kernel) rfl rfl (Nat.le_of_ble_eq_true rfl) dX7_init_90 (fun H locs hP hD hS => ?_)
  have hP : va_P D cls ([(h0, .inr (7, [.ref q0, .ref q1, .ref q2, .ref q3, .ref q4, .ref q5, .ref q6, .int 0, .ref q7, .int 0, .ref q8, .ref q9, .ref q10, .null, .null, .int 0, .int 0, .int 0, .int 0])), (q0, .inl (cI, 8480, .inl (fun _ => 0))), (q1, .inl (cZ, 5, .inl (fun _ => 0))), (q2, .inl (cI, 64, .inl (fun _ => 0))), (q3, .inl (cZ, 64, .inl (fun _ => 0))), (q4, .inl (cZ, 512, .inl (fun _ => 0))), (q5, .inl (cI, 512, .inl (fun _ => 0))), (q6, .inl (cZ, 32, .inl (fun _ => 0))), (q7, .inl (cI, 4, .inl (fun _ => 0))), (q8, .inl (cI, 30, .inl (fun _ => 0))), (q9, .inl (cZ, 30, .inl (fun _ => 0))), (q10, .inl (cZ, 30, .inl (fun _ => 0)))] : va_W) H := hP
  have hD : va_D A ([(h0, .inr (7, [.ref q0, .ref q1, .ref q2, .ref q3, .ref q4, .ref q5, .ref q6, .int 0, .ref q7, .int 0, .ref q8, .ref q9, .ref q10, .null, .null, .int 0, .int 0, .int 0, .int 0])), (q0, .inl (cI, 8480, .inl (fun _ => 0))), (q1, .inl (cZ, 5, .inl (fun _ => 0))), (q2, .inl (cI, 64, .inl (fun _ => 0))), (q3, .inl (cZ, 64, .inl (fun _ => 0))), (q4, .inl (cZ, 512, .inl (fun _ => 0))), (q5, .inl (cI, 512, .inl (fun _ => 0))), (q6, .inl (cZ, 32, .inl (fun _ => 0))), (q7, .inl (cI, 4, .inl (fun _ => 0))), (q8, .inl (cI, 30, .inl (fun _ => 0))), (q9, .inl (cZ, 30, .inl (fun _ => 0))), (q10, .inl (cZ, 30, .inl (fun _ => 0)))] : va_W) := hD
  refine lv_aload_n hx hb dX7_init_93 rfl (lv_at hl 0 rfl) ?_
  refine lv_sipush (v := 480) hx hb dX7_init_94 (by decide) ?_
  refine va_newa (atype := .int) (ty := .int) (N' := 480) (a0 := (480, .inl (fun _ => 0))) hx hb (hts (.arrayClass .int) (by decide +kernel)) rfl hK hP hD hS hA (fun _ => rfl) (by decide) (by decide) (Nat.le_of_ble_eq_true rfl) (Nat.le_of_ble_eq_true rfl) (Nat.le_of_ble_eq_true rfl) dX7_init_97 (fun q11 cA H hK1 hP hD hS => ?_)
  have eA : cI = cA := K_I hK hK1
  subst eA
  have hP : va_P D cls ([(h0, .inr (7, [.ref q0, .ref q1, .ref q2, .ref q3, .ref q4, .ref q5, .ref q6, .int 0, .ref q7, .int 0, .ref q8, .ref q9, .ref q10, .null, .null, .int 0, .int 0, .int 0, .int 0])), (q0, .inl (cI, 8480, .inl (fun _ => 0))), (q1, .inl (cZ, 5, .inl (fun _ => 0))), (q2, .inl (cI, 64, .inl (fun _ => 0))), (q3, .inl (cZ, 64, .inl (fun _ => 0))), (q4, .inl (cZ, 512, .inl (fun _ => 0))), (q5, .inl (cI, 512, .inl (fun _ => 0))), (q6, .inl (cZ, 32, .inl (fun _ => 0))), (q7, .inl (cI, 4, .inl (fun _ => 0))), (q8, .inl (cI, 30, .inl (fun _ => 0))), (q9, .inl (cZ, 30, .inl (fun _ => 0))), (q10, .inl (cZ, 30, .inl (fun _ => 0))), (q11, .inl (cI, 480, .inl (fun _ => 0)))] : va_W) H := hP
  have hD : va_D A ([(h0, .inr (7, [.ref q0, .ref q1, .ref q2, .ref q3, .ref q4, .ref q5, .ref q6, .int 0, .ref q7, .int 0, .ref q8, .ref q9, .ref q10, .null, .null, .int 0, .int 0, .int 0, .int 0])), (q0, .inl (cI, 8480, .inl (fun _ => 0))), (q1, .inl (cZ, 5, .inl (fun _ => 0))), (q2, .inl (cI, 64, .inl (fun _ => 0))), (q3, .inl (cZ, 64, .inl (fun _ => 0))), (q4, .inl (cZ, 512, .inl (fun _ => 0))), (q5, .inl (cI, 512, .inl (fun _ => 0))), (q6, .inl (cZ, 32, .inl (fun _ => 0))), (q7, .inl (cI, 4, .inl (fun _ => 0))), (q8, .inl (cI, 30, .inl (fun _ => 0))), (q9, .inl (cZ, 30, .inl (fun _ => 0))), (q10, .inl (cZ, 30, .inl (fun _ => 0))), (q11, .inl (cI, 480, .inl (fun _ => 0)))] : va_W) := hD
  refine W.cs (cells' := 12) (slots' := 10243) rfl rfl ?_
  refine va_putF (D := D) (ci := 7) (v := .ref q11) (ty := .array .int) (C := RX7) (T := TX7) (N := 19) hx hb hts i7 tyX7 tyX7_ok nmX7 hown hK hP hD hS 0 rfl rfl 13 (by decide) hk44 (fun _ h9 => h9) rfl hin rfl (by decide +kernel) rfl rfl (Nat.le_of_ble_eq_true rfl) dX7_init_99 (fun H locs hP hD hS => ?_)
  have hP : va_P D cls ([(h0, .inr (7, [.ref q0, .ref q1, .ref q2, .ref q3, .ref q4, .ref q5, .ref q6, .int 0, .ref q7, .int 0, .ref q8, .ref q9, .ref q10, .ref q11, .null, .int 0, .int 0, .int 0, .int 0])), (q0, .inl (cI, 8480, .inl (fun _ => 0))), (q1, .inl (cZ, 5, .inl (fun _ => 0))), (q2, .inl (cI, 64, .inl (fun _ => 0))), (q3, .inl (cZ, 64, .inl (fun _ => 0))), (q4, .inl (cZ, 512, .inl (fun _ => 0))), (q5, .inl (cI, 512, .inl (fun _ => 0))), (q6, .inl (cZ, 32, .inl (fun _ => 0))), (q7, .inl (cI, 4, .inl (fun _ => 0))), (q8, .inl (cI, 30, .inl (fun _ => 0))), (q9, .inl (cZ, 30, .inl (fun _ => 0))), (q10, .inl (cZ, 30, .inl (fun _ => 0))), (q11, .inl (cI, 480, .inl (fun _ => 0)))] : va_W) H := hP
  have hD : va_D A ([(h0, .inr (7, [.ref q0, .ref q1, .ref q2, .ref q3, .ref q4, .ref q5, .ref q6, .int 0, .ref q7, .int 0, .ref q8, .ref q9, .ref q10, .ref q11, .null, .int 0, .int 0, .int 0, .int 0])), (q0, .inl (cI, 8480, .inl (fun _ => 0))), (q1, .inl (cZ, 5, .inl (fun _ => 0))), (q2, .inl (cI, 64, .inl (fun _ => 0))), (q3, .inl (cZ, 64, .inl (fun _ => 0))), (q4, .inl (cZ, 512, .inl (fun _ => 0))), (q5, .inl (cI, 512, .inl (fun _ => 0))), (q6, .inl (cZ, 32, .inl (fun _ => 0))), (q7, .inl (cI, 4, .inl (fun _ => 0))), (q8, .inl (cI, 30, .inl (fun _ => 0))), (q9, .inl (cZ, 30, .inl (fun _ => 0))), (q10, .inl (cZ, 30, .inl (fun _ => 0))), (q11, .inl (cI, 480, .inl (fun _ => 0)))] : va_W) := hD
  refine lv_aload_n hx hb dX7_init_102 rfl (lv_at hl 0 rfl) ?_
  refine lv_bipush (v := 40) hx hb dX7_init_103 (by decide) ?_
  refine va_newa (atype := .int) (ty := .int) (N' := 40) (a0 := (40, .inl (fun _ => 0))) hx hb (hts (.arrayClass .int) (by decide +kernel)) rfl hK hP hD hS hA (fun _ => rfl) (by decide) (by decide) (Nat.le_of_ble_eq_true rfl) (Nat.le_of_ble_eq_true rfl) (Nat.le_of_ble_eq_true rfl) dX7_init_105 (fun q12 cA H hK1 hP hD hS => ?_)
  have eA : cI = cA := K_I hK hK1
  subst eA
  have hP : va_P D cls ([(h0, .inr (7, [.ref q0, .ref q1, .ref q2, .ref q3, .ref q4, .ref q5, .ref q6, .int 0, .ref q7, .int 0, .ref q8, .ref q9, .ref q10, .ref q11, .null, .int 0, .int 0, .int 0, .int 0])), (q0, .inl (cI, 8480, .inl (fun _ => 0))), (q1, .inl (cZ, 5, .inl (fun _ => 0))), (q2, .inl (cI, 64, .inl (fun _ => 0))), (q3, .inl (cZ, 64, .inl (fun _ => 0))), (q4, .inl (cZ, 512, .inl (fun _ => 0))), (q5, .inl (cI, 512, .inl (fun _ => 0))), (q6, .inl (cZ, 32, .inl (fun _ => 0))), (q7, .inl (cI, 4, .inl (fun _ => 0))), (q8, .inl (cI, 30, .inl (fun _ => 0))), (q9, .inl (cZ, 30, .inl (fun _ => 0))), (q10, .inl (cZ, 30, .inl (fun _ => 0))), (q11, .inl (cI, 480, .inl (fun _ => 0))), (q12, .inl (cI, 40, .inl (fun _ => 0)))] : va_W) H := hP
  have hD : va_D A ([(h0, .inr (7, [.ref q0, .ref q1, .ref q2, .ref q3, .ref q4, .ref q5, .ref q6, .int 0, .ref q7, .int 0, .ref q8, .ref q9, .ref q10, .ref q11, .null, .int 0, .int 0, .int 0, .int 0])), (q0, .inl (cI, 8480, .inl (fun _ => 0))), (q1, .inl (cZ, 5, .inl (fun _ => 0))), (q2, .inl (cI, 64, .inl (fun _ => 0))), (q3, .inl (cZ, 64, .inl (fun _ => 0))), (q4, .inl (cZ, 512, .inl (fun _ => 0))), (q5, .inl (cI, 512, .inl (fun _ => 0))), (q6, .inl (cZ, 32, .inl (fun _ => 0))), (q7, .inl (cI, 4, .inl (fun _ => 0))), (q8, .inl (cI, 30, .inl (fun _ => 0))), (q9, .inl (cZ, 30, .inl (fun _ => 0))), (q10, .inl (cZ, 30, .inl (fun _ => 0))), (q11, .inl (cI, 480, .inl (fun _ => 0))), (q12, .inl (cI, 40, .inl (fun _ => 0)))] : va_W) := hD
  refine W.cs (cells' := 13) (slots' := 10283) rfl rfl ?_
  refine va_putF (D := D) (ci := 7) (v := .ref q12) (ty := .array .int) (C := RX7) (T := TX7) (N := 19) hx hb hts i7 tyX7 tyX7_ok nmX7 hown hK hP hD hS 0 rfl rfl 14 (by decide) hk47 (fun _ h9 => h9) rfl hin rfl (by decide +kernel) rfl rfl (Nat.le_of_ble_eq_true rfl) dX7_init_107 (fun H locs hP hD hS => ?_)
  have hP : va_P D cls ([(h0, .inr (7, [.ref q0, .ref q1, .ref q2, .ref q3, .ref q4, .ref q5, .ref q6, .int 0, .ref q7, .int 0, .ref q8, .ref q9, .ref q10, .ref q11, .ref q12, .int 0, .int 0, .int 0, .int 0])), (q0, .inl (cI, 8480, .inl (fun _ => 0))), (q1, .inl (cZ, 5, .inl (fun _ => 0))), (q2, .inl (cI, 64, .inl (fun _ => 0))), (q3, .inl (cZ, 64, .inl (fun _ => 0))), (q4, .inl (cZ, 512, .inl (fun _ => 0))), (q5, .inl (cI, 512, .inl (fun _ => 0))), (q6, .inl (cZ, 32, .inl (fun _ => 0))), (q7, .inl (cI, 4, .inl (fun _ => 0))), (q8, .inl (cI, 30, .inl (fun _ => 0))), (q9, .inl (cZ, 30, .inl (fun _ => 0))), (q10, .inl (cZ, 30, .inl (fun _ => 0))), (q11, .inl (cI, 480, .inl (fun _ => 0))), (q12, .inl (cI, 40, .inl (fun _ => 0)))] : va_W) H := hP
  have hD : va_D A ([(h0, .inr (7, [.ref q0, .ref q1, .ref q2, .ref q3, .ref q4, .ref q5, .ref q6, .int 0, .ref q7, .int 0, .ref q8, .ref q9, .ref q10, .ref q11, .ref q12, .int 0, .int 0, .int 0, .int 0])), (q0, .inl (cI, 8480, .inl (fun _ => 0))), (q1, .inl (cZ, 5, .inl (fun _ => 0))), (q2, .inl (cI, 64, .inl (fun _ => 0))), (q3, .inl (cZ, 64, .inl (fun _ => 0))), (q4, .inl (cZ, 512, .inl (fun _ => 0))), (q5, .inl (cI, 512, .inl (fun _ => 0))), (q6, .inl (cZ, 32, .inl (fun _ => 0))), (q7, .inl (cI, 4, .inl (fun _ => 0))), (q8, .inl (cI, 30, .inl (fun _ => 0))), (q9, .inl (cZ, 30, .inl (fun _ => 0))), (q10, .inl (cZ, 30, .inl (fun _ => 0))), (q11, .inl (cI, 480, .inl (fun _ => 0))), (q12, .inl (cI, 40, .inl (fun _ => 0)))] : va_W) := hD
  obtain ⟨a0, ha0⟩ : ∃ a0 : Nat → Nat, a0 = (fun k => [h0, q0, q1, q2, q3, q4, q5, q6, h0, q7, h0, q8, q9, q10, q11, q12, h0, h0, h0, h0].getD k 0) := ⟨_, rfl⟩
  have e0 : a0 0 = h0 := by rw [ha0]; rfl
  have hP : va_P D cls (wX7 cI cZ a0 z0) H := by rw [ha0]; exact hP
  have hD : va_D A (wX7 cI cZ a0 z0) := by rw [ha0]; exact hD
  have hDD : ∀ w : S1, va_D A (wX7 cI cZ a0 w) := fun _ => D_same (w := (wX7 cI cZ a0 z0)) rfl hD
  have hl : lv_has ls 2 [(0, .ref (a0 0))] := by rw [e0]; exact hl
  refine lv_iconst (v := 0) hx hb dX7_init_110 (by decide) ?_
  refine lv_istore_n (lv' := [(1, .int 0), (0, .ref (a0 0))]) hx hb dX7_init_111 rfl hl (by decide) rfl (fun ls hl => ?_)
  obtain ⟨G112_1, hG112_1, hf⟩ := qj2_some hf
  have j112_1 : ∀ (n : Nat) (y112_1_1 : Int32) (u112_1_0 : S1) (H : Heap) (locs : List Loc) (ls : Array Slot), ql2 G112_1 n y112_1_1 u112_1_0 = some o → va_P D cls (wX7 cI cZ a0 u112_1_0) H → va_S A s.heap H locs → lv_has ls 2 [(0, .ref (a0 0)), (1, .int y112_1_1)] → W p l e (headSpec wsX7_init rmX7_init).room s m args below meth c H locs 13 10283 Q (F0 m 112 ls []) := by
    intro n
    induction n with
    | zero => intro y112_1_1 u112_1_0 H locs ls hf hP hS hl; exact (ql2_z hf).elim
    | succ n ih112_1 =>
      intro y112_1_1 u112_1_0 H locs ls hf hP hS hl
      have hf := ql2_s hG112_1 hf
      obtain ⟨r112_1, hr112_1⟩ : ∃ z, z = ql2 G112_1 n := ⟨_, rfl⟩
      rw [← hr112_1] at hf ih112_1
      refine lv_iload_n hx hb dX7_init_112 rfl (lv_at hl 1 rfl) ?_
      refine lv_sipush (v := 160) hx hb dX7_init_113 (by decide) ?_
      refine lv_icmp_ge (tgt := 135) hx hb dX7_init_116 (by decide) (fun c_2 => ?_) (fun c_2 => ?_)
      · have hf := ite_t hf c_2
        refine lv_aload_n hx hb dX7_init_135 rfl (lv_at hl 0 rfl) ?_
        refine lv_iconst (v := 0) hx hb dX7_init_136 (by decide) ?_
        refine lv_iconst (v := 1) hx hb dX7_init_137 (by decide) ?_
        refine lv_bipush (v := 15) hx hb dX7_init_138 (by decide) ?_
        refine lv_iconst (v := (-1)) hx hb dX7_init_140 (by decide) ?_
        obtain ⟨z_3, hz_3, hf⟩ := bn_some hf
        refine cWVv (As := [.int 0, .int 1, .int 15, .int (-1)]) (rest := []) ⟨hx, hb, hml, hown, hts⟩ (c_X7_makes l D cI cZ cJ cT a0 H.size u112_1_0 0 1 15 (-1) z_3 hz_3) (cwV 4 hts gX7_init_X7_makes rfl rfl rfl (by decide +kernel) ⟨Nat.le_of_ble_eq_true rfl, Nat.le_of_ble_eq_true rfl⟩) hP hK (hDD u112_1_0) hS (own_free (hDD u112_1_0) hS hA) (va_recv hK hP (ci := 7) (q0 := 0) rfl rfl) rfl rfl hl.1 (Nat.le_of_ble_eq_true rfl) dX7_init_141 ⟨Nat.le_of_ble_eq_true rfl, Nat.le_of_ble_eq_true rfl⟩ (fun H1 locs hP1 hk1 hS => ?_)
        have hP : va_P D cls (wX7 cI cZ a0 z_3) H1 := hP1
        clear hP1 hk1
        generalize H1 = H at hP hS ⊢
        refine lv_aload_n hx hb dX7_init_144 rfl (lv_at hl 0 rfl) ?_
        refine va_get (D := D) (ci := 7) (v := .ref (a0 1)) (C := RX7) (T := TX7) (N := 19) hx hb hts i7 hown hK hP 0 rfl rfl 0 (by decide) hk7 (fun _ h9 => h9) rfl dX7_init_145 ?_
        refine lv_iconst (v := 3) hx hb dX7_init_148 (by decide) ?_
        refine lv_iconst (v := 0) hx hb dX7_init_149 (by decide) ?_
        obtain ⟨hi, hf⟩ := chk_some hf
        obtain ⟨u_4, hu_4, hf⟩ := bv_some hf
        refine va_iast hx hb hK hP (hDD z_3) hS 1 0 rfl rfl (inb_in hi) dX7_init_150 (fun H locs hP _ hS => ?_)
        have hP : va_P D cls (wX7 cI cZ a0 u_4) H := by rw [hu_4]; exact hP
        refine lv_aload_n hx hb dX7_init_151 rfl (lv_at hl 0 rfl) ?_
        refine va_get (D := D) (ci := 7) (v := .ref (a0 2)) (C := RX7) (T := TX7) (N := 19) hx hb hts i7 hown hK hP 0 rfl rfl 1 (by decide) hk13 (fun _ h9 => h9) rfl dX7_init_152 ?_
        refine lv_iconst (v := 0) hx hb dX7_init_155 (by decide) ?_
        refine lv_iconst (v := 1) hx hb dX7_init_156 (by decide) ?_
        obtain ⟨hi, hf⟩ := chk_some hf
        obtain ⟨u_5, hu_5, hf⟩ := bv_some hf
        refine va_zast hx hb hK hP (hDD u_4) hS 2 1 rfl rfl (inb_in hi) dX7_init_157 (fun H locs hP _ hS => ?_)
        have hP : va_P D cls (wX7 cI cZ a0 u_5) H := by rw [hu_5]; exact hP
        refine lv_aload_n hx hb dX7_init_158 rfl (lv_at hl 0 rfl) ?_
        refine va_get (D := D) (ci := 7) (v := .ref (a0 2)) (C := RX7) (T := TX7) (N := 19) hx hb hts i7 hown hK hP 0 rfl rfl 1 (by decide) hk13 (fun _ h9 => h9) rfl dX7_init_159 ?_
        refine lv_iconst (v := 1) hx hb dX7_init_162 (by decide) ?_
        refine lv_iconst (v := 1) hx hb dX7_init_163 (by decide) ?_
        obtain ⟨hi, hf⟩ := chk_some hf
        obtain ⟨u_6, hu_6, hf⟩ := bv_some hf
        refine va_zast hx hb hK hP (hDD u_5) hS 2 1 rfl rfl (inb_in hi) dX7_init_164 (fun H locs hP _ hS => ?_)
        have hP : va_P D cls (wX7 cI cZ a0 u_6) H := by rw [hu_6]; exact hP
        refine lv_aload_n hx hb dX7_init_165 rfl (lv_at hl 0 rfl) ?_
        refine lv_iconst (v := 0) hx hb dX7_init_166 (by decide) ?_
        refine lv_iconst (v := 1) hx hb dX7_init_167 (by decide) ?_
        obtain ⟨z_7, hz_7, hf⟩ := bn_some hf
        refine cWVv (As := [.int 0, .int 1]) (rest := []) ⟨hx, hb, hml, hown, hts⟩ (c_X7_copies l D cI cZ cJ cT a0 H.size u_6 0 1 z_7 hz_7) (cwV 2 hts gX7_init_X7_copies rfl rfl rfl (by decide +kernel) ⟨Nat.le_of_ble_eq_true rfl, Nat.le_of_ble_eq_true rfl⟩) hP hK (hDD u_6) hS (own_free (hDD u_6) hS hA) (va_recv hK hP (ci := 7) (q0 := 0) rfl rfl) rfl rfl hl.1 (Nat.le_of_ble_eq_true rfl) dX7_init_168 ⟨Nat.le_of_ble_eq_true rfl, Nat.le_of_ble_eq_true rfl⟩ (fun H1 locs hP1 hk1 hS => ?_)
        have hP : va_P D cls (wX7 cI cZ a0 z_7) H1 := hP1
        clear hP1 hk1
        generalize H1 = H at hP hS ⊢
        refine lv_iconst (v := 0) hx hb dX7_init_171 (by decide) ?_
        refine lv_istore_n (lv' := [(1, .int 0), (0, .ref (a0 0))]) hx hb dX7_init_172 rfl hl (by decide) rfl (fun ls hl => ?_)
        obtain ⟨G173_8, hG173_8, hf⟩ := qj2_some hf
        have j173_8 : ∀ (n : Nat) (y173_8_1 : Int32) (u173_8_0 : S1) (H : Heap) (locs : List Loc) (ls : Array Slot), ql2 G173_8 n y173_8_1 u173_8_0 = some o → va_P D cls (wX7 cI cZ a0 u173_8_0) H → va_S A s.heap H locs → lv_has ls 2 [(0, .ref (a0 0)), (1, .int y173_8_1)] → W p l e (headSpec wsX7_init rmX7_init).room s m args below meth c H locs 13 10283 Q (F0 m 173 ls []) := by
          intro n
          induction n with
          | zero => intro y173_8_1 u173_8_0 H locs ls hf hP hS hl; exact (ql2_z hf).elim
          | succ n ih173_8 =>
            intro y173_8_1 u173_8_0 H locs ls hf hP hS hl
            have hf := ql2_s hG173_8 hf
            obtain ⟨r173_8, hr173_8⟩ : ∃ z, z = ql2 G173_8 n := ⟨_, rfl⟩
            rw [← hr173_8] at hf ih173_8
            refine lv_iload_n hx hb dX7_init_173 rfl (lv_at hl 1 rfl) ?_
            refine lv_iconst (v := 4) hx hb dX7_init_174 (by decide) ?_
            refine lv_icmp_ge (tgt := 192) hx hb dX7_init_175 (by decide) (fun c_9 => ?_) (fun c_9 => ?_)
            · have hf := ite_t hf c_9
              have eo := Option.some.inj hf
              have hP : va_P D cls (wX7 cI cZ a0 o) H := by rw [← eo]; exact hP
              rw [hQ]
              exact W.vret hx hb hr (fun t ht hW => ⟨⟨(), rfl, trivial, a0, e0, P_at ht hP, hDD _⟩, hS.F ht⟩) hS.2.2 dX7_init_192 hlocks
            · have hf := ite_f hf c_9
              refine lv_aload_n hx hb dX7_init_178 rfl (lv_at hl 0 rfl) ?_
              refine va_get (D := D) (ci := 7) (v := .ref (a0 9)) (C := RX7) (T := TX7) (N := 19) hx hb hts i7 hown hK hP 0 rfl rfl 8 (by decide) hk32 (fun _ h9 => h9) rfl dX7_init_179 ?_
              refine lv_iload_n hx hb dX7_init_182 rfl (lv_at hl 1 rfl) ?_
              refine lv_bipush (v := 64) hx hb dX7_init_183 (by decide) ?_
              obtain ⟨hi, hf⟩ := chk_some hf
              obtain ⟨u_10, hu_10, hf⟩ := bv_some hf
              refine va_iast hx hb hK hP (hDD u173_8_0) hS 8 0 rfl rfl (inb_in hi) dX7_init_185 (fun H locs hP _ hS => ?_)
              have hP : va_P D cls (wX7 cI cZ a0 u_10) H := by rw [hu_10]; exact hP
              refine lv_iinc (v := y173_8_1 + 1) (lv' := [(1, .int (y173_8_1 + 1)), (0, .ref (a0 0))]) hx hb dX7_init_186 hl (k := 1) rfl rfl (by decide) rfl (fun ls hl => ?_)
              refine lv_goto (tgt := 173) hx hb dX7_init_189 (by decide) ?_
              exact ih173_8 _ _ _ _ _ hf hP hS (lv_sub hl [1, 0] rfl)
        exact j173_8 4096 _ _ _ _ _ hf hP hS (lv_sub hl [1, 0] rfl)
      · have hf := ite_f hf c_2
        refine lv_aload_n hx hb dX7_init_119 rfl (lv_at hl 0 rfl) ?_
        refine va_get (D := D) (ci := 7) (v := .ref (a0 1)) (C := RX7) (T := TX7) (N := 19) hx hb hts i7 hown hK hP 0 rfl rfl 0 (by decide) hk7 (fun _ h9 => h9) rfl dX7_init_120 ?_
        refine lv_bipush (v := 53) hx hb dX7_init_123 (by decide) ?_
        refine lv_iload_n hx hb dX7_init_125 rfl (lv_at hl 1 rfl) ?_
        refine lv_imul hx hb dX7_init_126 ?_
        refine lv_iconst (v := (-1)) hx hb dX7_init_127 (by decide) ?_
        obtain ⟨hi, hf⟩ := chk_some hf
        obtain ⟨u_11, hu_11, hf⟩ := bv_some hf
        refine va_iast hx hb hK hP (hDD u112_1_0) hS 1 0 rfl rfl (inb_in hi) dX7_init_128 (fun H locs hP _ hS => ?_)
        have hP : va_P D cls (wX7 cI cZ a0 u_11) H := by rw [hu_11]; exact hP
        refine lv_iinc (v := y112_1_1 + 1) (lv' := [(1, .int (y112_1_1 + 1)), (0, .ref (a0 0))]) hx hb dX7_init_129 hl (k := 1) rfl rfl (by decide) rfl (fun ls hl => ?_)
        refine lv_goto (tgt := 112) hx hb dX7_init_132 (by decide) ?_
        exact ih112_1 _ _ _ _ _ hf hP hS (lv_sub hl [1, 0] rfl)
  exact j112_1 4096 _ _ _ _ _ hf hP hS (lv_sub hl [1, 0] rfl)

-- THE LAW'S OWN METHODS
def LK : List Cond := [.classLink RL 19 "java/lang/IllegalArgumentException", .classLink RL 13 "java/lang/IndexOutOfBoundsException", .classLink RL 21 "java/lang/IllegalStateException"]
theorem gM_sub {big k ws : List Cond} (h : GoodIn big ws) : GoodIn (big ++ k) ws := fun w hw => ⟨List.mem_append_left _ (h w hw).1, (h w hw).2⟩
theorem gM_law {big k ws : List Cond} {own : String} {idx : Nat} {y : MethodName} (h : GoodIn big (va_wsS own idx y ws)) (hk : GoodIn big k) : GoodIn big (va_wsS own idx y (ws ++ k)) := by
  intro w hw
  unfold va_wsS at h hw
  rw [← List.append_assoc] at hw
  exact (List.mem_append.mp hw).elim (h w) (hk w)
def setL (g : Nat → Int64) (x : Int64) : Nat → Int64 := vp_updL g (0 : Int32).toNatClampNeg x
abbrev wL (cI cZ cJ cT : ClassId) (a : Nat → Nat → Nat) (b : Nat) (U : S2) (g : Nat → Int64) : va_W := List.flatten [wI cI cZ cT a U, [(b, .inl (cJ, 1, .inr (.inl g)))]]
def NC (U : State) : Prop := ∀ i j : Nat, 1 ≤ i ∧ i ≤ 3 → 1 ≤ j ∧ j ≤ 3 → i ≠ j → va_Nc (exN i) (exN j) U
def PL (D : va_G) (cls : List vw_C) (ty : List (ClassId × FieldType)) (w : va_W) (sz : Nat) : State → Prop := fun U => PX D cls ty w sz U ∧ NC U
theorem blL {av : List Value} {D : va_G} {cls : List vw_C} {ty : List (ClassId × FieldType)} {w : va_W} {sz : Nat} : FrameBlind (va_Pc av (PL D cls ty w sz)) := fun a U g mk h => ⟨h.1, (blX a U g mk ⟨h.1, h.2.1⟩ : va_Pc av (PX D cls ty w sz) a (U.calling g mk a)).2, fun i j hi hj hij => va_Nc.moved (u := U) (U := U.calling g mk a) (Vm.Alike.refl U.vm) (h.2.2 i j hi hj hij)⟩
section MyL
variable {p : Program} {l : Launch} {e : Env} {R : Room} {s : State} {m : MethodId} {args : Array Value} {below : List Frame} {meth : Method} {c : Code} {H : Heap} {locs : List Loc} {cells slots : Nat} {Q : State → Prop}
variable {y : MethodName} {bytes cc : ByteArray} {maxL nL mc ms n index pc : Nat} {ret : Option FieldType} {ws : List Cond} {rm : Room} {Ts : List Cond} {own C : String} {b : Addr} {st0 rest As : List Value} {ls : Array Slot} {D : va_G} {cls : List vw_C} {ty : List (ClassId × FieldType)} {wc wc' : va_W} {r : Int32} {k : Nat} {A : Nat → Prop}
theorem cYVi (S : CallFix p m c cc nL s args Ts own) (hM : vx_Met l y ws rm (va_Pc (.ref b :: As) (PX D cls ty wc H.size)) (QXi D cls k r wc' (va_A wc H.size)) (XX D cls k wc' (va_A wc H.size)) mc ms (va_A wc H.size)) (cw : CallW R s args own C index y bytes maxL ret ws rm mc ms n)
    (hP : va_P D cls wc H) (hK : va_K D cls ty s) (hD : va_D A wc) (hE : EX A s) (hS : va_S A s.heap H locs) (hF : ∀ q, va_A wc H.size q → A q) (hrec : ∃ cell : Cell, H[b]? = some cell ∧ cell.vm.isStatics = false ∧ s.vm.findClass C = some cell.cls)
    (hst : st0 = As.reverse ++ .ref b :: rest) (hn : As.length = n) (hsize : ls.size = nL) (hW : (rest.map fun v => v.category).sum ≤ 8) (hdg : decode cc pc = .ok (.invokevirtual index, 3)) (hf : cells + mc ≤ R.cells ∧ slots + ms ≤ R.slots)
    (kx : ∀ (E : String) (ce : Cell) (q9 : Addr) (H1 : Heap) (locs1 : List Loc), k ≠ 0 → E = exN k → va_P D cls wc' H1 → (∀ q : Nat, q < H.size → ¬ va_A wc H.size q → H1[q]? = H[q]?) → va_S A s.heap H1 locs1 → H1[q9]? = some ce → ce.vm = .none → s.vm.findClass E = some ce.cls → vx_W p l e R s m args below meth c H1 locs1 (cells + mc) (slots + ms) Q (F0 m pc ls rest) q9)
    (kk : ∀ (H1 : Heap) (locs1 : List Loc), k = 0 → va_P D cls wc' H1 → (∀ q : Nat, q < H.size → ¬ va_A wc H.size q → H1[q]? = H[q]?) → va_S A s.heap H1 locs1 → W p l e R s m args below meth c H1 locs1 (cells + mc) (slots + ms) Q (F0 m (pc + 3) ls (.int r :: rest))) : W p l e R s m args below meth c H locs cells slots Q (F0 m pc ls st0) :=
  vx_calli (vx_runV (As := As) (rest := rest) S hM cw ⟨blX, hrec, fun U hU hW => ⟨rfl, ⟨by rw [hU], by rw [hU]; exact hP, va_K.moved hW.alike hK, hD.weaken (fun _ _ _ _ => trivial)⟩, EX_call hE hS hF hU hW⟩⟩ rfl hn hsize hst (lv_room hW) hdg hf) hS (fun q _ h => hF q h) hF (fun q _ h => hF q h)
    (fun E ce q9 u t H1 locs1 ht _ _ hB _ hk9 hS1 hce hcv hcl => kx E ce q9 H1 locs1 hB.1.1 hB.1.2 (ht ▸ hB.2) hk9 hS1 hce hcv hcl)
    (fun z u t H1 locs1 ht _ hz hB _ hk9 hS1 => by rw [hz.2]; exact kk H1 locs1 hz.1 (ht ▸ hB) hk9 hS1)
theorem cYVv (S : CallFix p m c cc nL s args Ts own) (hM : vx_Met l y ws rm (va_Pc (.ref b :: As) (PX D cls ty wc H.size)) (QXv D cls k wc' (va_A wc H.size)) (XX D cls k wc' (va_A wc H.size)) mc ms (va_A wc H.size)) (cw : CallW R s args own C index y bytes maxL ret ws rm mc ms n)
    (hP : va_P D cls wc H) (hK : va_K D cls ty s) (hD : va_D A wc) (hE : EX A s) (hS : va_S A s.heap H locs) (hF : ∀ q, va_A wc H.size q → A q) (hrec : ∃ cell : Cell, H[b]? = some cell ∧ cell.vm.isStatics = false ∧ s.vm.findClass C = some cell.cls)
    (hst : st0 = As.reverse ++ .ref b :: rest) (hn : As.length = n) (hsize : ls.size = nL) (hW : (rest.map fun v => v.category).sum ≤ 8) (hdg : decode cc pc = .ok (.invokevirtual index, 3)) (hf : cells + mc ≤ R.cells ∧ slots + ms ≤ R.slots)
    (kx : ∀ (E : String) (ce : Cell) (q9 : Addr) (H1 : Heap) (locs1 : List Loc), k ≠ 0 → E = exN k → va_P D cls wc' H1 → (∀ q : Nat, q < H.size → ¬ va_A wc H.size q → H1[q]? = H[q]?) → va_S A s.heap H1 locs1 → H1[q9]? = some ce → ce.vm = .none → s.vm.findClass E = some ce.cls → vx_W p l e R s m args below meth c H1 locs1 (cells + mc) (slots + ms) Q (F0 m pc ls rest) q9)
    (kk : ∀ (H1 : Heap) (locs1 : List Loc), k = 0 → va_P D cls wc' H1 → (∀ q : Nat, q < H.size → ¬ va_A wc H.size q → H1[q]? = H[q]?) → va_S A s.heap H1 locs1 → W p l e R s m args below meth c H1 locs1 (cells + mc) (slots + ms) Q (F0 m (pc + 3) ls rest)) : W p l e R s m args below meth c H locs cells slots Q (F0 m pc ls st0) :=
  vx_callv (vx_runV (As := As) (rest := rest) S hM cw ⟨blX, hrec, fun U hU hW => ⟨rfl, ⟨by rw [hU], by rw [hU]; exact hP, va_K.moved hW.alike hK, hD.weaken (fun _ _ _ _ => trivial)⟩, EX_call hE hS hF hU hW⟩⟩ rfl hn hsize hst (lv_room hW) hdg hf) hS (fun q _ h => hF q h) hF (fun q _ h => hF q h)
    (fun E ce q9 u t H1 locs1 ht _ _ hB _ hk9 hS1 hce hcv hcl => kx E ce q9 H1 locs1 hB.1.1 hB.1.2 (ht ▸ hB.2) hk9 hS1 hce hcv hcl)
    (fun u t H1 locs1 ht _ hz hB _ hk9 hS1 => kk H1 locs1 hz (ht ▸ hB) hk9 hS1)
end MyL

/-! ===== the same with the words that a chain of constructors needs ===== -/
def DcL : List String := ["java/lang/RuntimeException", "java/lang/Exception", Bundle.tN]
def Qx (G : va_G) (cy : Nat → ClassId) (S : PS) (sz : Nat) (k : Nat) (tx : String) (sa : Nat) : State → Prop := fun U => Pw G cy S sz U ∧ Zs (AS S sz) U U.heap ∧ vk_R RX11 k tx sa U ∧ ∀ Y ∈ DcL, va_Nw (.declares (Bundle.initS Y)) U
theorem qx_blind {G : va_G} {cy : Nat → ClassId} {S : PS} {av : List Value} {sz k sa : Nat} {tx : String} : FrameBlind (va_Pc av (Qx G cy S sz k tx sa)) := fun a U g mk q => by
  obtain ⟨q0, q1, ⟨z1, z2⟩, q3, q4⟩ := q
  have b := (pw_blind (G := G) (cy := cy) (S := S) (av := av) (sz := sz)) a U g mk ⟨q0, q1⟩
  exact ⟨b.1, b.2, ⟨vx_Zq.moved (u := U) (U := U.calling g mk a) (Vm.Alike.refl U.vm) z1, vx_Zq.moved (u := U) (U := U.calling g mk a) (Vm.Alike.refl U.vm) z2⟩, vk_R.same (u := U) (U := U.calling g mk a) rfl q3, fun Y hY => va_Nw.same (u := U) (U := U.calling g mk a) rfl rfl (q4 Y hY)⟩
section XROWS2
variable {p : Program} {l : Launch} {e : Env} {R : Room} {s : State} {m : MethodId} {args : Array Value} {below : List Frame} {meth : Method} {c : Code} {H : Heap} {locs : List Loc} {cells slots : Nat} {Q : State → Prop}
variable {cc : ByteArray} {pc nL : Nat} {ls : Array Slot} {rest : List Value} {Ts : List Cond} {own ref : String} {G : va_G} {cy : Nat → ClassId} {A : Nat → Prop} {S : PS} {a k index sa : Nat} {tx : String}
theorem zs_at2 (X : Cx p c cc nL s args Ts own m G cy A) (hw : Wd G cy A s.heap S H locs) (hZ : Zs A s s.heap) {U : State} (hU : U.heap = H) (hW : s.WarmedH U.vm) : Zs (AS S H.size) U U.heap := by
  rw [hU]
  exact ⟨((hZ.1.kept (fun a h1 h2 => hw.2.2.2.1 a h1 h2)).narrow (as_in X hw)).moved hW.alike, ((hZ.2.kept (fun a h1 h2 => hw.2.2.2.1 a h1 h2)).narrow (as_in X hw)).moved hW.alike⟩
theorem qx_of (X : Cx p c cc nL s args Ts own m G cy A) (hw : Wd G cy A s.heap S H locs) (hZ : Zs A s s.heap) (hR : vk_R RX11 k tx sa s) (hd : ∀ Y ∈ DcL, va_Nw (.declares (Bundle.initS Y)) s) {U : State} (hU : U.heap = H) (hW : s.WarmedH U.vm) : Qx G cy S H.size k tx sa U := ⟨pw_of X hw hU hW, zs_at2 X hw hZ hU hW, vk_R.warm hW hR, fun Y hY => va_Nw.warmD hW (hd Y hY)⟩
theorem pre_SQ (X : Cx p c cc nL s args Ts own m G cy A) (hw : Wd G cy A s.heap S H locs) (hZ : Zs A s s.heap) (hR : vk_R RX11 k tx sa s) (hd : ∀ Y ∈ DcL, va_Nw (.declares (Bundle.initS Y)) s) (av : List Value) : PreS s H (va_Pc av (Qx G cy S H.size k tx sa)) av := ⟨qx_blind, fun U hU hW => ⟨rfl, qx_of X hw hZ hR hd hU hW⟩⟩
theorem pre_VQ (X : Cx p c cc nL s args Ts own m G cy A) (hw : Wd G cy A s.heap S H locs) (hZ : Zs A s s.heap) (hR : vk_R RX11 k tx sa s) (hd : ∀ Y ∈ DcL, va_Nw (.declares (Bundle.initS Y)) s) (av : List Value) {b k' : Nat} (ha : At S b k') (hk : k' < 13) {q : vw_C} (hc : vwCl[k']? = some q) : PreV s H q.1 b (va_Pc (.ref b :: av) (Qx G cy S H.size k tx sa)) av := by
  obtain ⟨n, hn⟩ := pl_get (cy := cy) ha.1
  rw [PF_O ha.2 hk] at hn
  exact ⟨qx_blind, va_recv X.2.2.2.2.2.1 hw.1 hc hn, fun U hU hW => ⟨rfl, qx_of X hw hZ hR hd hU hW⟩⟩
end XROWS2

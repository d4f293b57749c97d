/-! ===== the pool: addresses, kinds, int fields, reference fields, lengths, int rows, reference rows ===== -/
abbrev PS : Type := List Nat × (Nat → Nat) × (Nat → Nat → Int32) × (Nat → Nat → Option Nat) × (Nat → Nat) × (Nat → Nat → Int32) × (Nat → Nat → Option Nat)
def pL (S : PS) : List Nat := S.1
def pK (S : PS) : Nat → Nat := S.2.1
def pI (S : PS) : Nat → Nat → Int32 := S.2.2.1
def pR (S : PS) : Nat → Nat → Option Nat := S.2.2.2.1
def pN (S : PS) : Nat → Nat := S.2.2.2.2.1
def pA (S : PS) : Nat → Nat → Int32 := S.2.2.2.2.2.1
def pB (S : PS) : Nat → Nat → Option Nat := S.2.2.2.2.2.2
def u2 {α : Type} (f : Nat → Nat → α) (g a : Nat) (v : α) : Nat → Nat → α := fun x y => if x = g then (if y = a then v else f x y) else f x y
theorem u2_same {α : Type} (f : Nat → Nat → α) (g a : Nat) (v : α) : u2 f g a v g a = v := by simp [u2]
theorem u2_ne {α : Type} (f : Nat → Nat → α) {g a x y : Nat} (v : α) (h : y ≠ a) : u2 f g a v x y = f x y := by simp [u2, h]
theorem u2_nf {α : Type} (f : Nat → Nat → α) {g a x y : Nat} (v : α) (h : x ≠ g) : u2 f g a v x y = f x y := by simp [u2, h]
def sI (S : PS) (g a : Nat) (v : Int32) : PS := (pL S, pK S, u2 (pI S) g a v, pR S, pN S, pA S, pB S)
def sR (S : PS) (g a : Nat) (v : Option Nat) : PS := (pL S, pK S, pI S, u2 (pR S) g a v, pN S, pA S, pB S)
def sA (S : PS) (a : Nat) (f : Nat → Int32) : PS := (pL S, pK S, pI S, pR S, pN S, va_up (pA S) a f, pB S)
def sB (S : PS) (a : Nat) (f : Nat → Option Nat) : PS := (pL S, pK S, pI S, pR S, pN S, pA S, va_up (pB S) a f)
def sO (S : PS) (q k : Nat) : PS := (pL S ++ [q], va_up (pK S) q k, (fun g a => if a = q then 0 else pI S g a), (fun g a => if a = q then none else pR S g a), pN S, pA S, pB S)
def sN (S : PS) (q k n : Nat) : PS := (pL S ++ [q], va_up (pK S) q k, pI S, pR S, va_up (pN S) q n, va_up (pA S) q (fun _ => 0), va_up (pB S) q (fun _ => none))
def vals (S : PS) (a : Nat) (k : Nat) : List Value := match k with
  | 0 => [.int (pI S 0 a), .int (pI S 1 a), .int (pI S 2 a), .int (pI S 3 a), .int (pI S 4 a), .int (pI S 5 a), .int (pI S 6 a), .int (pI S 7 a), .int (pI S 8 a), .int (pI S 9 a)]
  | 1 => [va_rf (pR S 100 a), .int (pI S 101 a), .int (pI S 102 a), .int (pI S 103 a)]
  | 2 => [va_rf (pR S 200 a), va_rf (pR S 201 a), va_rf (pR S 202 a), .int (pI S 203 a), .int (pI S 204 a), .int (pI S 205 a), .int (pI S 206 a), .int (pI S 207 a)]
  | 3 => [.int (pI S 300 a), .int (pI S 301 a), va_rf (pR S 302 a), va_rf (pR S 303 a), .int (pI S 304 a)]
  | 4 => [va_rf (pR S 400 a), va_rf (pR S 401 a), va_rf (pR S 402 a), va_rf (pR S 403 a), .int (pI S 404 a), .int (pI S 405 a), .int (pI S 406 a), .int (pI S 407 a), .int (pI S 408 a), va_rf (pR S 409 a), .int (pI S 410 a), .int (pI S 411 a)]
  | 5 => [.int (pI S 500 a), va_rf (pR S 501 a), .int (pI S 502 a)]
  | 6 => [.int (pI S 600 a), va_rf (pR S 601 a), va_rf (pR S 602 a), va_rf (pR S 603 a), va_rf (pR S 604 a), va_rf (pR S 605 a), va_rf (pR S 606 a)]
  | 7 => [.int (pI S 700 a), .int (pI S 701 a), .int (pI S 702 a), va_rf (pR S 703 a), .int (pI S 704 a), .int (pI S 705 a), .int (pI S 706 a), .int (pI S 707 a), .int (pI S 708 a), .int (pI S 709 a)]
  | 8 => [.int (pI S 800 a), .int (pI S 801 a), .int (pI S 802 a), .int (pI S 803 a), .int (pI S 804 a), .int (pI S 805 a), .int (pI S 806 a), va_rf (pR S 807 a), va_rf (pR S 808 a), va_rf (pR S 809 a), va_rf (pR S 810 a), va_rf (pR S 811 a), va_rf (pR S 812 a)]
  | 9 => [va_rf (pR S 900 a), va_rf (pR S 901 a), .int (pI S 902 a), .int (pI S 903 a), .int (pI S 904 a), va_rf (pR S 905 a), va_rf (pR S 906 a), va_rf (pR S 907 a), va_rf (pR S 908 a)]
  | 10 => [.int (pI S 1000 a), .int (pI S 1001 a), .int (pI S 1002 a), va_rf (pR S 1003 a), .int (pI S 1004 a), .int (pI S 1005 a), .int (pI S 1006 a)]
  | 11 => [va_rf (pR S 1100 a), va_rf (pR S 1101 a), .int (pI S 1102 a), va_rf (pR S 1103 a), .int (pI S 1104 a), va_rf (pR S 1105 a), va_rf (pR S 1106 a), va_rf (pR S 1107 a), va_rf (pR S 1108 a), va_rf (pR S 1109 a), .int (pI S 1110 a), va_rf (pR S 1111 a)]
  | 12 => [.int (pI S 1200 a), .int (pI S 1201 a), va_rf (pR S 1202 a), va_rf (pR S 1203 a), va_rf (pR S 1204 a), va_rf (pR S 1205 a), va_rf (pR S 1206 a), va_rf (pR S 1207 a), va_rf (pR S 1208 a), va_rf (pR S 1209 a), va_rf (pR S 1210 a), .int (pI S 1211 a), va_rf (pR S 1212 a), va_rf (pR S 1213 a), va_rf (pR S 1214 a), va_rf (pR S 1215 a), va_rf (pR S 1216 a), va_rf (pR S 1217 a), va_rf (pR S 1218 a), va_rf (pR S 1219 a), va_rf (pR S 1220 a), va_rf (pR S 1221 a), va_rf (pR S 1222 a), va_rf (pR S 1223 a), va_rf (pR S 1224 a), va_rf (pR S 1225 a), va_rf (pR S 1226 a), va_rf (pR S 1227 a), .int (pI S 1228 a), .int (pI S 1229 a), .int (pI S 1230 a), .int (pI S 1231 a), .int (pI S 1232 a), .int (pI S 1233 a), .int (pI S 1234 a), va_rf (pR S 1235 a), va_rf (pR S 1236 a), va_rf (pR S 1237 a), .int (pI S 1238 a), va_rf (pR S 1239 a), va_rf (pR S 1240 a), va_rf (pR S 1241 a), va_rf (pR S 1242 a), va_rf (pR S 1243 a), va_rf (pR S 1244 a), .int (pI S 1245 a), .int (pI S 1246 a), .int (pI S 1247 a), va_rf (pR S 1248 a), .int (pI S 1249 a), .int (pI S 1250 a), .int (pI S 1251 a), va_rf (pR S 1252 a), va_rf (pR S 1253 a), va_rf (pR S 1254 a), va_rf (pR S 1255 a), va_rf (pR S 1256 a), va_rf (pR S 1257 a), va_rf (pR S 1258 a), va_rf (pR S 1259 a), va_rf (pR S 1260 a), va_rf (pR S 1261 a), .int (pI S 1262 a), va_rf (pR S 1263 a), va_rf (pR S 1264 a), va_rf (pR S 1265 a)]
  | _ => []
def PF (cy : Nat → ClassId) (S : PS) (a : Nat) : va_E := if pK S a % 20 < 13 then .inr (pK S a % 20, vals S a (pK S a % 20)) else if pK S a % 20 < 16 then .inl (cy (pK S a % 20 - 13), pN S a, .inl (pA S a)) else .inl (cy (pK S a % 20 - 13), pN S a, .inr (.inr (.inr (.inr (pB S a)))))
theorem PF_O {cy : Nat → ClassId} {S : PS} {a k b : Nat} (h : pK S a = k) (hm : k % 20 = b) (hk : b < 13) : PF cy S a = .inr (b, vals S a b) := by simp [PF, h, hm, hk]
theorem PF_A {cy : Nat → ClassId} {S : PS} {a k b : Nat} (h : pK S a = k) (hm : k % 20 = b) (h1 : 13 ≤ b) (h2 : b < 16) : PF cy S a = .inl (cy (b - 13), pN S a, .inl (pA S a)) := by simp [PF, h, hm, Nat.not_lt.mpr h1, h2]
theorem PF_B {cy : Nat → ClassId} {S : PS} {a k b : Nat} (h : pK S a = k) (hm : k % 20 = b) (h1 : 16 ≤ b) : PF cy S a = .inl (cy (b - 13), pN S a, .inr (.inr (.inr (.inr (pB S a))))) := by simp [PF, h, hm, show ¬ b < 13 by omega, Nat.not_lt.mpr h1]
theorem vals_congr {S S' : PS} {b : Nat} (h1 : ∀ g, pI S' g b = pI S g b) (h2 : ∀ g, pR S' g b = pR S g b) (k : Nat) : vals S' b k = vals S b k := by
  unfold vals
  split <;> simp [h1, h2]
theorem PF_congr {cy : Nat → ClassId} {S S' : PS} {b : Nat} (h0 : pK S' b = pK S b) (h1 : ∀ g, pI S' g b = pI S g b) (h2 : ∀ g, pR S' g b = pR S g b) (h3 : pN S' b = pN S b) (h4 : pA S' b = pA S b) (h5 : pB S' b = pB S b) : PF cy S' b = PF cy S b := by
  simp only [PF, h0, h3, h4, h5, vals_congr h1 h2]
theorem PF_sI {cy : Nat → ClassId} {S : PS} {a k0 k g j : Nat} {v : Int32} (h : pK S a = k0) (hm : k0 % 20 = k) (hk : k < 13) (hset : vals (sI S g a v) a k = (vals S a k).set j (.int v)) (b : Nat) : va_up (PF cy S) a (.inr (k, (vals S a k).set j (.int v))) b = PF cy (sI S g a v) b := by
  by_cases hb : b = a
  · subst hb
    rw [PF_O (S := sI S g b v) (k := k0) h hm hk, hset]; simp [va_up]
  · rw [PF_congr (S := S) (S' := sI S g a v) rfl (fun x => u2_ne _ _ hb) (fun _ => rfl) rfl rfl rfl]; simp [va_up, hb]
theorem PF_sR {cy : Nat → ClassId} {S : PS} {a k0 k g j : Nat} {v : Option Nat} (h : pK S a = k0) (hm : k0 % 20 = k) (hk : k < 13) (hset : vals (sR S g a v) a k = (vals S a k).set j (va_rf v)) (b : Nat) : va_up (PF cy S) a (.inr (k, (vals S a k).set j (va_rf v))) b = PF cy (sR S g a v) b := by
  by_cases hb : b = a
  · subst hb
    rw [PF_O (S := sR S g b v) (k := k0) h hm hk, hset]; simp [va_up]
  · rw [PF_congr (S := S) (S' := sR S g a v) rfl (fun _ => rfl) (fun x => u2_ne _ _ hb) rfl rfl rfl]; simp [va_up, hb]
theorem PF_sA {cy : Nat → ClassId} {S : PS} {a k0 k : Nat} {f : Nat → Int32} (h : pK S a = k0) (hm : k0 % 20 = k) (h1 : 13 ≤ k) (h2 : k < 16) (b : Nat) : va_up (PF cy S) a (.inl (cy (k - 13), pN S a, .inl f)) b = PF cy (sA S a f) b := by
  by_cases hb : b = a
  · subst hb
    rw [PF_A (S := sA S b f) (k := k0) h hm h1 h2]; simp [va_up, sA, pA, pN]
  · rw [PF_congr (S := S) (S' := sA S a f) rfl (fun _ => rfl) (fun _ => rfl) rfl (by simp [sA, pA, va_up, hb]) rfl]; simp [va_up, hb]
theorem PF_sB {cy : Nat → ClassId} {S : PS} {a k0 k : Nat} {f : Nat → Option Nat} (h : pK S a = k0) (hm : k0 % 20 = k) (h1 : 16 ≤ k) (b : Nat) : va_up (PF cy S) a (.inl (cy (k - 13), pN S a, .inr (.inr (.inr (.inr f))))) b = PF cy (sB S a f) b := by
  by_cases hb : b = a
  · subst hb
    rw [PF_B (S := sB S b f) (k := k0) h hm h1]; simp [va_up, sB, pB, pN]
  · rw [PF_congr (S := S) (S' := sB S a f) rfl (fun _ => rfl) (fun _ => rfl) rfl rfl (by simp [sB, pB, va_up, hb])]; simp [va_up, hb]
theorem PF_sO {cy : Nat → ClassId} {S : PS} {q k0 k : Nat} (hm : k0 % 20 = k) (hk : k < 13) {z : List Value} (hz : vals (sO S q k0) q k = z) (b : Nat) : va_up (PF cy S) q (.inr (k, z)) b = PF cy (sO S q k0) b := by
  by_cases hb : b = q
  · subst hb
    rw [PF_O (S := sO S b k0) (k := k0) (by simp [sO, pK, va_up]) hm hk, hz]; simp [va_up]
  · rw [PF_congr (S := S) (S' := sO S q k0) (by simp [sO, pK, va_up, hb]) (fun _ => by simp [sO, pI, hb]) (fun _ => by simp [sO, pR, hb]) rfl rfl rfl]; simp [va_up, hb]
theorem PF_sNA {cy : Nat → ClassId} {S : PS} {q k0 k n : Nat} (hm : k0 % 20 = k) (h1 : 13 ≤ k) (h2 : k < 16) (b : Nat) : va_up (PF cy S) q (.inl (cy (k - 13), n, .inl (fun _ => 0))) b = PF cy (sN S q k0 n) b := by
  by_cases hb : b = q
  · subst hb
    rw [PF_A (S := sN S b k0 n) (k := k0) (by simp [sN, pK, va_up]) hm h1 h2]; simp [va_up, sN, pA, pN]
  · rw [PF_congr (S := S) (S' := sN S q k0 n) (by simp [sN, pK, va_up, hb]) (fun _ => rfl) (fun _ => rfl) (by simp [sN, pN, va_up, hb]) (by simp [sN, pA, va_up, hb]) (by simp [sN, pB, va_up, hb])]; simp [va_up, hb]
theorem PF_sNB {cy : Nat → ClassId} {S : PS} {q k0 k n : Nat} (hm : k0 % 20 = k) (h1 : 16 ≤ k) (b : Nat) : va_up (PF cy S) q (.inl (cy (k - 13), n, .inr (.inr (.inr (.inr (fun _ => none)))))) b = PF cy (sN S q k0 n) b := by
  by_cases hb : b = q
  · subst hb
    rw [PF_B (S := sN S b k0 n) (k := k0) (by simp [sN, pK, va_up]) hm h1]; simp [va_up, sN, pB, pN]
  · rw [PF_congr (S := S) (S' := sN S q k0 n) (by simp [sN, pK, va_up, hb]) (fun _ => rfl) (fun _ => rfl) (by simp [sN, pN, va_up, hb]) (by simp [sN, pA, va_up, hb]) (by simp [sN, pB, va_up, hb])]; simp [va_up, hb]
/-! ===== the world ===== -/
def pool (cy : Nat → ClassId) (S : PS) : va_W := va_pl (pL S) (PF cy S)
def tysL (cy : Nat → ClassId) : List (ClassId × FieldType) := [(cy 0, .byte), (cy 1, .int), (cy 2, .boolean), (cy 3, .object "SilkMill$Cocoon"), (cy 4, .object "SilkMill$Place"), (cy 5, .object "SilkMill$Pot"), (cy 6, .object "SilkMill$Skein")]
def Wd (G : va_G) (cy : Nat → ClassId) (A : Nat → Prop) (H0 : Heap) (S : PS) (H : Heap) (locs : List Loc) : Prop := va_P G vwCl (pool cy S) H ∧ va_D A (pool cy S) ∧ va_S A H0 H locs
def At (S : PS) (a k : Nat) : Prop := a ∈ pL S ∧ pK S a = k
def AS (S : PS) (sz : Nat) : Nat → Prop := fun q => q ∈ pL S ∨ sz ≤ q
def nestL : List (String × Nat × MethodName) := [(RX11, 27, yX10_init), (RX11, 34, yX6_init), (RX11, 41, yX8_init), (RX11, 48, yX1_init), (RX11, 62, yX3_init), (RX0, 30, yX11_next), (RX1, 32, yX11_next), (RX3, 34, yX11_isWithin), (RX4, 35, yX6_init), (RX8, 32, yX2_init), (RX8, 64, yX11_isWithin)]
/-- words that aren't kept by all warming: said of every method's entry -/
def NG (U : State) : Prop := (va_AO RX0 U ∧ va_AO RX3 U ∧ va_AO RX4 U ∧ va_AO RX7 U) ∧ (∀ q ∈ nestL, va_Nw (.methodLinkNest q.1 q.2.1 q.2.2 RX11) U) ∧ va_Nw (.castable "java/lang/IndexOutOfBoundsException" "java/lang/IndexOutOfBoundsException") U ∧ va_Nw (.castable "java/util/NoSuchElementException" "java/util/NoSuchElementException") U ∧ va_Nw (.fieldLinkNest RX0 46 RX11 "THIN" "[I" RX11) U ∧ va_Nw (.castable "[I" "java/lang/Cloneable") U
theorem NG_warm {s U : State} (hW : s.WarmedH U.vm) (h : NG s) : NG U := ⟨⟨h.1.1.moved hW.alike, h.1.2.1.moved hW.alike, h.1.2.2.1.moved hW.alike, h.1.2.2.2.moved hW.alike⟩, fun q hq => va_Nw.warmM hW (h.2.1 q hq), va_Nw.warmC hW h.2.2.1, va_Nw.warmC hW h.2.2.2.1, va_Nw.warmF hW h.2.2.2.2.1, va_Nw.warmC hW h.2.2.2.2.2⟩
theorem NG_same {s U : State} (e : s.vm = U.vm) (h : NG s) : NG U := by
  have ha : s.vm.Alike U.vm := by rw [← e]; exact Vm.Alike.refl _
  exact ⟨⟨h.1.1.moved ha, h.1.2.1.moved ha, h.1.2.2.1.moved ha, h.1.2.2.2.moved ha⟩, fun q hq => va_Nw.same rfl e (h.2.1 q hq), va_Nw.same rfl e h.2.2.1, va_Nw.same rfl e h.2.2.2.1, va_Nw.same rfl e h.2.2.2.2.1, va_Nw.same rfl e h.2.2.2.2.2⟩
/-! ===== constants: THIN (place 0), strings (100 on: themselves, 200 on: their bytes) ===== -/
def thinF : Nat → Int32 := fun j => [100, 104, 102, 97, 90, 81, 70, 58].getD j 0
def strs : List (String × Nat × String) := [("SilkMill", 104, "there is no such place of a cocoon"), ("SilkMill", 221, "there is no such cocoon in a pot"), ("SilkMill$Tape", 44, "if"), ("SilkMill$Tape", 74, "and"), ("SilkMill$Tape", 97, "fine"), ("SilkMill$Tape", 99, "ends"), ("SilkMill$Tape", 101, "basket"), ("SilkMill$Tape", 103, "lost"), ("SilkMill$Tape", 105, "made"), ("SilkMill$Tape", 107, "thin"), ("SilkMill$Tape", 109, "day"), ("SilkMill$Tape", 111, "cast"), ("SilkMill$Tape", 113, "drop"), ("SilkMill$Tape", 115, "find"), ("SilkMill$Tape", 117, "throw"), ("SilkMill$Tape", 119, "cut"), ("SilkMill$Tape", 121, "stop"), ("SilkMillModel", 252, "fine ends basket lost made thin day "), ("SilkMillModel", 258, "<"), ("SilkMillModel", 260, "="), ("SilkMillModel", 262, ">"), ("SilkMillModel", 267, "if"), ("SilkMillModel", 269, "cast drop find throw cut stop "), ("SilkMillModel", 274, "and"), ("SilkMillModel", 276, ":"), ("SilkMillModel", 281, ";")]
def strO (i : Nat) : String := (strs.getD i ("", 0, "")).1
def strX (i : Nat) : Nat := (strs.getD i ("", 0, "")).2.1
def strT (i : Nat) : String := (strs.getD i ("", 0, "")).2.2
def strN (i : Nat) : Nat := (strT i).length
def strB (i j : Nat) : Int32 := ((strT i).toList.map (fun ch => Int32.ofNat ch.toNat)).getD j 0
def StC (κ : Nat → Nat) (A : Nat → Prop) (i : Nat) (U : State) (H : Heap) : Prop := vk_R (strO i) (strX i) (strT i) (κ (100 + i)) U ∧ va_O "java/lang/String" (κ (100 + i)) A U H ∧ va_OF "java/lang/String" "coder" "B" (.int 0) (κ (100 + i)) A U H ∧ va_OF "java/lang/String" "value" "[B" (.ref (κ (200 + i))) (κ (100 + i)) A U H ∧ va_T .byte (κ (200 + i)) (strN i) (fun j => .int (strB i j)) A U H
def Cst (κ : Nat → Nat) (A : Nat → Prop) (U : State) (H : Heap) : Prop := va_Z RX11 "THIN" "[I" (.ref (κ 0)) A U H ∧ va_T .int (κ 0) 8 (fun j => .int (thinF j)) A U H ∧ vx_Zq Bundle.tN "UNASSIGNED_STACK" Bundle.steD A U H ∧ vx_Zq Bundle.tN "SUPPRESSED_SENTINEL" Bundle.listD A U H ∧ va_Z "java/lang/String" "COMPACT_STRINGS" "Z" (.int 1) A U H ∧ va_Zq "jdk/internal/util/Preconditions" "SIOOBE_FORMATTER" "Ljava/util/function/BiFunction;" A U H ∧ ∀ i, i < 26 → StC κ A i U H
theorem Cst.warm {κ : Nat → Nat} {A : Nat → Prop} {u U : State} {H : Heap} (hW : u.WarmedH U.vm) (h : Cst κ A u H) : Cst κ A U H := ⟨h.1.moved hW.alike, h.2.1.moved hW.alike, h.2.2.1.moved hW.alike, h.2.2.2.1.moved hW.alike, h.2.2.2.2.1.moved hW.alike, h.2.2.2.2.2.1.moved hW.alike, fun i hi => by
  obtain ⟨h1, h2, h3, h4, h5⟩ := h.2.2.2.2.2.2 i hi
  exact ⟨vk_R.warm hW h1, h2.moved hW.alike, h3.moved hW.alike, h4.moved hW.alike, h5.moved hW.alike⟩⟩
theorem Cst.same {κ : Nat → Nat} {A : Nat → Prop} {u U : State} {H : Heap} (hv : U.vm = u.vm) (h : Cst κ A u H) : Cst κ A U H := by
  have ha : u.vm.Alike U.vm := by rw [hv]; exact Vm.Alike.refl _
  exact ⟨h.1.moved ha, h.2.1.moved ha, h.2.2.1.moved ha, h.2.2.2.1.moved ha, h.2.2.2.2.1.moved ha, h.2.2.2.2.2.1.moved ha, fun i hi => by
    obtain ⟨h1, h2, h3, h4, h5⟩ := h.2.2.2.2.2.2 i hi
    exact ⟨vk_R.same hv h1, h2.moved ha, h3.moved ha, h4.moved ha, h5.moved ha⟩⟩
theorem Cst.kept {κ : Nat → Nat} {A : Nat → Prop} {U : State} {H H1 : Heap} (h : Cst κ A U H) (hq : ∀ a : Nat, a < H.size → ¬ A a → H1[a]? = H[a]?) : Cst κ A U H1 := ⟨h.1.kept hq, h.2.1.kept hq, h.2.2.1.kept hq, h.2.2.2.1.kept hq, h.2.2.2.2.1.kept hq, h.2.2.2.2.2.1.kept hq, fun i hi => by
  obtain ⟨h1, h2, h3, h4, h5⟩ := h.2.2.2.2.2.2 i hi
  exact ⟨h1, h2.kept hq, h3.kept hq, h4.kept hq, h5.kept hq⟩⟩
theorem Cst.narrow {κ : Nat → Nat} {A B : Nat → Prop} {U : State} {H : Heap} (h : Cst κ A U H) (hAB : ∀ q, B q → A q) : Cst κ B U H := ⟨h.1.narrow hAB, h.2.1.narrow hAB, h.2.2.1.narrow hAB, h.2.2.2.1.narrow hAB, h.2.2.2.2.1.narrow hAB, h.2.2.2.2.2.1.narrow hAB, fun i hi => by
  obtain ⟨h1, h2, h3, h4, h5⟩ := h.2.2.2.2.2.2 i hi
  exact ⟨h1, h2.narrow hAB, h3.narrow hAB, h4.narrow hAB, h5.narrow hAB⟩⟩
def Cx (p : Program) (c : Code) (cc : ByteArray) (nL : Nat) (s : State) (args : Array Value) (Ts : List Cond) (own : String) (m : MethodId) (G : va_G) (cy : Nat → ClassId) (κ : Nat → Nat) (A : Nat → Prop) : Prop :=
  p.tables.exec = Jvm.exec ∧ c.code = cc ∧ c.maxLocals = nL ∧ (∀ w ∈ Ts, w.before args s = true) ∧ s.vm.findClass own = some m.cls ∧ va_K G vwCl (tysL cy) s ∧ (∀ q, s.heap.size ≤ q → A q) ∧ NG s ∧ Cst κ A s s.heap
theorem pl_get {cy : Nat → ClassId} {S : PS} {a : Nat} (h : a ∈ pL S) : ∃ k : Nat, (pool cy S)[k]? = some (a, PF cy S a) := by
  obtain ⟨k, hk⟩ := va_pl_get (X := []) (f := PF cy S) h
  exact ⟨k, hk⟩
theorem pl_set {A : Nat → Prop} {cy : Nat → ClassId} {S S' : PS} {a k : Nat} {e : va_E} (hD : va_D A (pool cy S)) (h : a ∈ pL S) (hk : (pool cy S)[k]? = some (a, PF cy S a)) (hL : pL S' = pL S) (hF : ∀ b, va_up (PF cy S) a e b = PF cy S' b) : (pool cy S).set k (a, e) = pool cy S' := by
  have h1 := va_pl_set (X := []) (e := e) hD h hk
  have h2 : (pool cy S).set k (a, e) = va_pl (pL S) (va_up (PF cy S) a e) := h1
  rw [h2, va_pl_congr hF]; unfold pool; rw [hL]
theorem pl_push {cy : Nat → ClassId} {S S' : PS} {q : Nat} {e : va_E} (hq : q ∉ pL S) (hL : pL S' = pL S ++ [q]) (hF : ∀ b, va_up (PF cy S) q e b = PF cy S' b) : pool cy S ++ [(q, e)] = pool cy S' := by
  have h1 : pool cy S ++ [(q, e)] = va_pl (pL S ++ [q]) (va_up (PF cy S) q e) := va_pl_push hq
  rw [h1, va_pl_congr hF]; unfold pool; rw [hL]
theorem pl_mem {cy : Nat → ClassId} {S : PS} {k : Nat} {q : Nat × va_E} (h : (pool cy S)[k]? = some q) : q.1 ∈ pL S := by
  have := List.mem_of_getElem? h
  simp only [pool, va_pl, List.mem_map] at this
  obtain ⟨a, h1, rfl⟩ := this
  exact h1
theorem Wd.lt {G : va_G} {cy : Nat → ClassId} {A : Nat → Prop} {H0 H : Heap} {S : PS} {locs : List Loc} (hw : Wd G cy A H0 S H locs) {a : Nat} (h : a ∈ pL S) : a < H.size := by
  obtain ⟨k, hk⟩ := pl_get (cy := cy) h
  exact (hw.1 k _ hk).lt
theorem At_sI {S : PS} {a k g b : Nat} {v : Int32} (h : At S a k) : At (sI S g b v) a k := h
theorem At_sR {S : PS} {a k g b : Nat} {v : Option Nat} (h : At S a k) : At (sR S g b v) a k := h
theorem At_sA {S : PS} {a k b : Nat} {f : Nat → Int32} (h : At S a k) : At (sA S b f) a k := h
theorem At_sB {S : PS} {a k b : Nat} {f : Nat → Option Nat} (h : At S a k) : At (sB S b f) a k := h
theorem At_ne {S : PS} {a b k k' : Nat} (h : At S a k) (h' : At S b k') (hk : k ≠ k') : a ≠ b := fun e => hk (by rw [← h.2, ← h'.2, e])
theorem At_old {S : PS} {a k q : Nat} (h : At S a k) (hq : q ∉ pL S) : a ≠ q := fun e => hq (e ▸ h.1)
theorem At_sO {S : PS} {a k q k' : Nat} (h : At S a k) (hq : q ∉ pL S) : At (sO S q k') a k := ⟨List.mem_append_left _ h.1, by
  have := At_old h hq
  simp [sO, pK, va_up, this]; exact h.2⟩
theorem At_nO (S : PS) (q k : Nat) : At (sO S q k) q k := ⟨List.mem_append_right _ (List.mem_singleton.mpr rfl), by simp [sO, pK, va_up]⟩
theorem At_sN {S : PS} {a k q k' n : Nat} (h : At S a k) (hq : q ∉ pL S) : At (sN S q k' n) a k := ⟨List.mem_append_left _ h.1, by
  have := At_old h hq
  simp [sN, pK, va_up, this]; exact h.2⟩
theorem At_nN (S : PS) (q k n : Nat) : At (sN S q k n) q k := ⟨List.mem_append_right _ (List.mem_singleton.mpr rfl), by simp [sN, pK, va_up]⟩
theorem st_0 (S : PS) (a : Nat) (v : Int32) : vals (sI S 0 a v) a 0 = (vals S a 0).set 0 (.int v) := by simp [vals, sI, u2, pI, pR]
theorem st_1 (S : PS) (a : Nat) (v : Int32) : vals (sI S 1 a v) a 0 = (vals S a 0).set 1 (.int v) := by simp [vals, sI, u2, pI, pR]
theorem st_2 (S : PS) (a : Nat) (v : Int32) : vals (sI S 2 a v) a 0 = (vals S a 0).set 2 (.int v) := by simp [vals, sI, u2, pI, pR]
theorem st_3 (S : PS) (a : Nat) (v : Int32) : vals (sI S 3 a v) a 0 = (vals S a 0).set 3 (.int v) := by simp [vals, sI, u2, pI, pR]
theorem st_4 (S : PS) (a : Nat) (v : Int32) : vals (sI S 4 a v) a 0 = (vals S a 0).set 4 (.int v) := by simp [vals, sI, u2, pI, pR]
theorem st_5 (S : PS) (a : Nat) (v : Int32) : vals (sI S 5 a v) a 0 = (vals S a 0).set 5 (.int v) := by simp [vals, sI, u2, pI, pR]
theorem st_6 (S : PS) (a : Nat) (v : Int32) : vals (sI S 6 a v) a 0 = (vals S a 0).set 6 (.int v) := by simp [vals, sI, u2, pI, pR]
theorem st_7 (S : PS) (a : Nat) (v : Int32) : vals (sI S 7 a v) a 0 = (vals S a 0).set 7 (.int v) := by simp [vals, sI, u2, pI, pR]
theorem st_8 (S : PS) (a : Nat) (v : Int32) : vals (sI S 8 a v) a 0 = (vals S a 0).set 8 (.int v) := by simp [vals, sI, u2, pI, pR]
theorem st_9 (S : PS) (a : Nat) (v : Int32) : vals (sI S 9 a v) a 0 = (vals S a 0).set 9 (.int v) := by simp [vals, sI, u2, pI, pR]
theorem gv_0 (S : PS) (a : Nat) : (vals S a 0)[0]? = some (.int (pI S 0 a)) := rfl
theorem gv_1 (S : PS) (a : Nat) : (vals S a 0)[1]? = some (.int (pI S 1 a)) := rfl
theorem gv_2 (S : PS) (a : Nat) : (vals S a 0)[2]? = some (.int (pI S 2 a)) := rfl
theorem gv_3 (S : PS) (a : Nat) : (vals S a 0)[3]? = some (.int (pI S 3 a)) := rfl
theorem gv_4 (S : PS) (a : Nat) : (vals S a 0)[4]? = some (.int (pI S 4 a)) := rfl
theorem gv_5 (S : PS) (a : Nat) : (vals S a 0)[5]? = some (.int (pI S 5 a)) := rfl
theorem gv_6 (S : PS) (a : Nat) : (vals S a 0)[6]? = some (.int (pI S 6 a)) := rfl
theorem gv_7 (S : PS) (a : Nat) : (vals S a 0)[7]? = some (.int (pI S 7 a)) := rfl
theorem gv_8 (S : PS) (a : Nat) : (vals S a 0)[8]? = some (.int (pI S 8 a)) := rfl
theorem gv_9 (S : PS) (a : Nat) : (vals S a 0)[9]? = some (.int (pI S 9 a)) := rfl
theorem zo_0 (k0 : Nat) (S : PS) (q : Nat) : vals (sO S q k0) q 0 = [.int 0, .int 0, .int 0, .int 0, .int 0, .int 0, .int 0, .int 0, .int 0, .int 0] := by simp [vals, sO, pI, pR, va_rf]
theorem zd_0 : ∀ j, j < 10 → defaultValue (tyX0 j) = vp_V [.int 0, .int 0, .int 0, .int 0, .int 0, .int 0, .int 0, .int 0, .int 0, .int 0] j := by
  intro j hj
  have : ∀ j : Fin 10, defaultValue (tyX0 j) = vp_V [.int 0, .int 0, .int 0, .int 0, .int 0, .int 0, .int 0, .int 0, .int 0, .int 0] j := by decide +kernel
  exact this ⟨j, hj⟩
theorem st_100 (S : PS) (a : Nat) (v : Option Nat) : vals (sR S 100 a v) a 1 = (vals S a 1).set 0 (va_rf v) := by simp [vals, sR, u2, pR, pI]
theorem st_101 (S : PS) (a : Nat) (v : Int32) : vals (sI S 101 a v) a 1 = (vals S a 1).set 1 (.int v) := by simp [vals, sI, u2, pI, pR]
theorem st_102 (S : PS) (a : Nat) (v : Int32) : vals (sI S 102 a v) a 1 = (vals S a 1).set 2 (.int v) := by simp [vals, sI, u2, pI, pR]
theorem st_103 (S : PS) (a : Nat) (v : Int32) : vals (sI S 103 a v) a 1 = (vals S a 1).set 3 (.int v) := by simp [vals, sI, u2, pI, pR]
theorem gv_100 (S : PS) (a : Nat) : (vals S a 1)[0]? = some (va_rf (pR S 100 a)) := rfl
theorem gv_101 (S : PS) (a : Nat) : (vals S a 1)[1]? = some (.int (pI S 101 a)) := rfl
theorem gv_102 (S : PS) (a : Nat) : (vals S a 1)[2]? = some (.int (pI S 102 a)) := rfl
theorem gv_103 (S : PS) (a : Nat) : (vals S a 1)[3]? = some (.int (pI S 103 a)) := rfl
theorem zo_1 (k0 : Nat) (S : PS) (q : Nat) : vals (sO S q k0) q 1 = [.null, .int 0, .int 0, .int 0] := by simp [vals, sO, pI, pR, va_rf]
theorem zd_1 : ∀ j, j < 4 → defaultValue (tyX1 j) = vp_V [.null, .int 0, .int 0, .int 0] j := by
  intro j hj
  have : ∀ j : Fin 4, defaultValue (tyX1 j) = vp_V [.null, .int 0, .int 0, .int 0] j := by decide +kernel
  exact this ⟨j, hj⟩
theorem st_200 (S : PS) (a : Nat) (v : Option Nat) : vals (sR S 200 a v) a 2 = (vals S a 2).set 0 (va_rf v) := by simp [vals, sR, u2, pR, pI]
theorem st_201 (S : PS) (a : Nat) (v : Option Nat) : vals (sR S 201 a v) a 2 = (vals S a 2).set 1 (va_rf v) := by simp [vals, sR, u2, pR, pI]
theorem st_202 (S : PS) (a : Nat) (v : Option Nat) : vals (sR S 202 a v) a 2 = (vals S a 2).set 2 (va_rf v) := by simp [vals, sR, u2, pR, pI]
theorem st_203 (S : PS) (a : Nat) (v : Int32) : vals (sI S 203 a v) a 2 = (vals S a 2).set 3 (.int v) := by simp [vals, sI, u2, pI, pR]
theorem st_204 (S : PS) (a : Nat) (v : Int32) : vals (sI S 204 a v) a 2 = (vals S a 2).set 4 (.int v) := by simp [vals, sI, u2, pI, pR]
theorem st_205 (S : PS) (a : Nat) (v : Int32) : vals (sI S 205 a v) a 2 = (vals S a 2).set 5 (.int v) := by simp [vals, sI, u2, pI, pR]
theorem st_206 (S : PS) (a : Nat) (v : Int32) : vals (sI S 206 a v) a 2 = (vals S a 2).set 6 (.int v) := by simp [vals, sI, u2, pI, pR]
theorem st_207 (S : PS) (a : Nat) (v : Int32) : vals (sI S 207 a v) a 2 = (vals S a 2).set 7 (.int v) := by simp [vals, sI, u2, pI, pR]
theorem gv_200 (S : PS) (a : Nat) : (vals S a 2)[0]? = some (va_rf (pR S 200 a)) := rfl
theorem gv_201 (S : PS) (a : Nat) : (vals S a 2)[1]? = some (va_rf (pR S 201 a)) := rfl
theorem gv_202 (S : PS) (a : Nat) : (vals S a 2)[2]? = some (va_rf (pR S 202 a)) := rfl
theorem gv_203 (S : PS) (a : Nat) : (vals S a 2)[3]? = some (.int (pI S 203 a)) := rfl
theorem gv_204 (S : PS) (a : Nat) : (vals S a 2)[4]? = some (.int (pI S 204 a)) := rfl
theorem gv_205 (S : PS) (a : Nat) : (vals S a 2)[5]? = some (.int (pI S 205 a)) := rfl
theorem gv_206 (S : PS) (a : Nat) : (vals S a 2)[6]? = some (.int (pI S 206 a)) := rfl
theorem gv_207 (S : PS) (a : Nat) : (vals S a 2)[7]? = some (.int (pI S 207 a)) := rfl
theorem zo_2 (k0 : Nat) (S : PS) (q : Nat) : vals (sO S q k0) q 2 = [.null, .null, .null, .int 0, .int 0, .int 0, .int 0, .int 0] := by simp [vals, sO, pI, pR, va_rf]
theorem zd_2 : ∀ j, j < 8 → defaultValue (tyX2 j) = vp_V [.null, .null, .null, .int 0, .int 0, .int 0, .int 0, .int 0] j := by
  intro j hj
  have : ∀ j : Fin 8, defaultValue (tyX2 j) = vp_V [.null, .null, .null, .int 0, .int 0, .int 0, .int 0, .int 0] j := by decide +kernel
  exact this ⟨j, hj⟩
theorem st_300 (S : PS) (a : Nat) (v : Int32) : vals (sI S 300 a v) a 3 = (vals S a 3).set 0 (.int v) := by simp [vals, sI, u2, pI, pR]
theorem st_301 (S : PS) (a : Nat) (v : Int32) : vals (sI S 301 a v) a 3 = (vals S a 3).set 1 (.int v) := by simp [vals, sI, u2, pI, pR]
theorem st_302 (S : PS) (a : Nat) (v : Option Nat) : vals (sR S 302 a v) a 3 = (vals S a 3).set 2 (va_rf v) := by simp [vals, sR, u2, pR, pI]
theorem st_303 (S : PS) (a : Nat) (v : Option Nat) : vals (sR S 303 a v) a 3 = (vals S a 3).set 3 (va_rf v) := by simp [vals, sR, u2, pR, pI]
theorem st_304 (S : PS) (a : Nat) (v : Int32) : vals (sI S 304 a v) a 3 = (vals S a 3).set 4 (.int v) := by simp [vals, sI, u2, pI, pR]
theorem gv_300 (S : PS) (a : Nat) : (vals S a 3)[0]? = some (.int (pI S 300 a)) := rfl
theorem gv_301 (S : PS) (a : Nat) : (vals S a 3)[1]? = some (.int (pI S 301 a)) := rfl
theorem gv_302 (S : PS) (a : Nat) : (vals S a 3)[2]? = some (va_rf (pR S 302 a)) := rfl
theorem gv_303 (S : PS) (a : Nat) : (vals S a 3)[3]? = some (va_rf (pR S 303 a)) := rfl
theorem gv_304 (S : PS) (a : Nat) : (vals S a 3)[4]? = some (.int (pI S 304 a)) := rfl
theorem zo_3 (k0 : Nat) (S : PS) (q : Nat) : vals (sO S q k0) q 3 = [.int 0, .int 0, .null, .null, .int 0] := by simp [vals, sO, pI, pR, va_rf]
theorem zd_3 : ∀ j, j < 5 → defaultValue (tyX3 j) = vp_V [.int 0, .int 0, .null, .null, .int 0] j := by
  intro j hj
  have : ∀ j : Fin 5, defaultValue (tyX3 j) = vp_V [.int 0, .int 0, .null, .null, .int 0] j := by decide +kernel
  exact this ⟨j, hj⟩
theorem st_400 (S : PS) (a : Nat) (v : Option Nat) : vals (sR S 400 a v) a 4 = (vals S a 4).set 0 (va_rf v) := by simp [vals, sR, u2, pR, pI]
theorem st_401 (S : PS) (a : Nat) (v : Option Nat) : vals (sR S 401 a v) a 4 = (vals S a 4).set 1 (va_rf v) := by simp [vals, sR, u2, pR, pI]
theorem st_402 (S : PS) (a : Nat) (v : Option Nat) : vals (sR S 402 a v) a 4 = (vals S a 4).set 2 (va_rf v) := by simp [vals, sR, u2, pR, pI]
theorem st_403 (S : PS) (a : Nat) (v : Option Nat) : vals (sR S 403 a v) a 4 = (vals S a 4).set 3 (va_rf v) := by simp [vals, sR, u2, pR, pI]
theorem st_404 (S : PS) (a : Nat) (v : Int32) : vals (sI S 404 a v) a 4 = (vals S a 4).set 4 (.int v) := by simp [vals, sI, u2, pI, pR]
theorem st_405 (S : PS) (a : Nat) (v : Int32) : vals (sI S 405 a v) a 4 = (vals S a 4).set 5 (.int v) := by simp [vals, sI, u2, pI, pR]
theorem st_406 (S : PS) (a : Nat) (v : Int32) : vals (sI S 406 a v) a 4 = (vals S a 4).set 6 (.int v) := by simp [vals, sI, u2, pI, pR]
theorem st_407 (S : PS) (a : Nat) (v : Int32) : vals (sI S 407 a v) a 4 = (vals S a 4).set 7 (.int v) := by simp [vals, sI, u2, pI, pR]
theorem st_408 (S : PS) (a : Nat) (v : Int32) : vals (sI S 408 a v) a 4 = (vals S a 4).set 8 (.int v) := by simp [vals, sI, u2, pI, pR]
theorem st_409 (S : PS) (a : Nat) (v : Option Nat) : vals (sR S 409 a v) a 4 = (vals S a 4).set 9 (va_rf v) := by simp [vals, sR, u2, pR, pI]
theorem st_410 (S : PS) (a : Nat) (v : Int32) : vals (sI S 410 a v) a 4 = (vals S a 4).set 10 (.int v) := by simp [vals, sI, u2, pI, pR]
theorem st_411 (S : PS) (a : Nat) (v : Int32) : vals (sI S 411 a v) a 4 = (vals S a 4).set 11 (.int v) := by simp [vals, sI, u2, pI, pR]
theorem gv_400 (S : PS) (a : Nat) : (vals S a 4)[0]? = some (va_rf (pR S 400 a)) := rfl
theorem gv_401 (S : PS) (a : Nat) : (vals S a 4)[1]? = some (va_rf (pR S 401 a)) := rfl
theorem gv_402 (S : PS) (a : Nat) : (vals S a 4)[2]? = some (va_rf (pR S 402 a)) := rfl
theorem gv_403 (S : PS) (a : Nat) : (vals S a 4)[3]? = some (va_rf (pR S 403 a)) := rfl
theorem gv_404 (S : PS) (a : Nat) : (vals S a 4)[4]? = some (.int (pI S 404 a)) := rfl
theorem gv_405 (S : PS) (a : Nat) : (vals S a 4)[5]? = some (.int (pI S 405 a)) := rfl
theorem gv_406 (S : PS) (a : Nat) : (vals S a 4)[6]? = some (.int (pI S 406 a)) := rfl
theorem gv_407 (S : PS) (a : Nat) : (vals S a 4)[7]? = some (.int (pI S 407 a)) := rfl
theorem gv_408 (S : PS) (a : Nat) : (vals S a 4)[8]? = some (.int (pI S 408 a)) := rfl
theorem gv_409 (S : PS) (a : Nat) : (vals S a 4)[9]? = some (va_rf (pR S 409 a)) := rfl
theorem gv_410 (S : PS) (a : Nat) : (vals S a 4)[10]? = some (.int (pI S 410 a)) := rfl
theorem gv_411 (S : PS) (a : Nat) : (vals S a 4)[11]? = some (.int (pI S 411 a)) := rfl
theorem zo_4 (k0 : Nat) (S : PS) (q : Nat) : vals (sO S q k0) q 4 = [.null, .null, .null, .null, .int 0, .int 0, .int 0, .int 0, .int 0, .null, .int 0, .int 0] := by simp [vals, sO, pI, pR, va_rf]
theorem zd_4 : ∀ j, j < 12 → defaultValue (tyX4 j) = vp_V [.null, .null, .null, .null, .int 0, .int 0, .int 0, .int 0, .int 0, .null, .int 0, .int 0] j := by
  intro j hj
  have : ∀ j : Fin 12, defaultValue (tyX4 j) = vp_V [.null, .null, .null, .null, .int 0, .int 0, .int 0, .int 0, .int 0, .null, .int 0, .int 0] j := by decide +kernel
  exact this ⟨j, hj⟩
theorem st_500 (S : PS) (a : Nat) (v : Int32) : vals (sI S 500 a v) a 5 = (vals S a 5).set 0 (.int v) := by simp [vals, sI, u2, pI, pR]
theorem st_501 (S : PS) (a : Nat) (v : Option Nat) : vals (sR S 501 a v) a 5 = (vals S a 5).set 1 (va_rf v) := by simp [vals, sR, u2, pR, pI]
theorem st_502 (S : PS) (a : Nat) (v : Int32) : vals (sI S 502 a v) a 5 = (vals S a 5).set 2 (.int v) := by simp [vals, sI, u2, pI, pR]
theorem gv_500 (S : PS) (a : Nat) : (vals S a 5)[0]? = some (.int (pI S 500 a)) := rfl
theorem gv_501 (S : PS) (a : Nat) : (vals S a 5)[1]? = some (va_rf (pR S 501 a)) := rfl
theorem gv_502 (S : PS) (a : Nat) : (vals S a 5)[2]? = some (.int (pI S 502 a)) := rfl
theorem zo_5 (k0 : Nat) (S : PS) (q : Nat) : vals (sO S q k0) q 5 = [.int 0, .null, .int 0] := by simp [vals, sO, pI, pR, va_rf]
theorem zd_5 : ∀ j, j < 3 → defaultValue (tyX5 j) = vp_V [.int 0, .null, .int 0] j := by
  intro j hj
  have : ∀ j : Fin 3, defaultValue (tyX5 j) = vp_V [.int 0, .null, .int 0] j := by decide +kernel
  exact this ⟨j, hj⟩
theorem st_600 (S : PS) (a : Nat) (v : Int32) : vals (sI S 600 a v) a 6 = (vals S a 6).set 0 (.int v) := by simp [vals, sI, u2, pI, pR]
theorem st_601 (S : PS) (a : Nat) (v : Option Nat) : vals (sR S 601 a v) a 6 = (vals S a 6).set 1 (va_rf v) := by simp [vals, sR, u2, pR, pI]
theorem st_602 (S : PS) (a : Nat) (v : Option Nat) : vals (sR S 602 a v) a 6 = (vals S a 6).set 2 (va_rf v) := by simp [vals, sR, u2, pR, pI]
theorem st_603 (S : PS) (a : Nat) (v : Option Nat) : vals (sR S 603 a v) a 6 = (vals S a 6).set 3 (va_rf v) := by simp [vals, sR, u2, pR, pI]
theorem st_604 (S : PS) (a : Nat) (v : Option Nat) : vals (sR S 604 a v) a 6 = (vals S a 6).set 4 (va_rf v) := by simp [vals, sR, u2, pR, pI]
theorem st_605 (S : PS) (a : Nat) (v : Option Nat) : vals (sR S 605 a v) a 6 = (vals S a 6).set 5 (va_rf v) := by simp [vals, sR, u2, pR, pI]
theorem st_606 (S : PS) (a : Nat) (v : Option Nat) : vals (sR S 606 a v) a 6 = (vals S a 6).set 6 (va_rf v) := by simp [vals, sR, u2, pR, pI]
theorem gv_600 (S : PS) (a : Nat) : (vals S a 6)[0]? = some (.int (pI S 600 a)) := rfl
theorem gv_601 (S : PS) (a : Nat) : (vals S a 6)[1]? = some (va_rf (pR S 601 a)) := rfl
theorem gv_602 (S : PS) (a : Nat) : (vals S a 6)[2]? = some (va_rf (pR S 602 a)) := rfl
theorem gv_603 (S : PS) (a : Nat) : (vals S a 6)[3]? = some (va_rf (pR S 603 a)) := rfl
theorem gv_604 (S : PS) (a : Nat) : (vals S a 6)[4]? = some (va_rf (pR S 604 a)) := rfl
theorem gv_605 (S : PS) (a : Nat) : (vals S a 6)[5]? = some (va_rf (pR S 605 a)) := rfl
theorem gv_606 (S : PS) (a : Nat) : (vals S a 6)[6]? = some (va_rf (pR S 606 a)) := rfl
theorem zo_6 (k0 : Nat) (S : PS) (q : Nat) : vals (sO S q k0) q 6 = [.int 0, .null, .null, .null, .null, .null, .null] := by simp [vals, sO, pI, pR, va_rf]
theorem zd_6 : ∀ j, j < 7 → defaultValue (tyX6 j) = vp_V [.int 0, .null, .null, .null, .null, .null, .null] j := by
  intro j hj
  have : ∀ j : Fin 7, defaultValue (tyX6 j) = vp_V [.int 0, .null, .null, .null, .null, .null, .null] j := by decide +kernel
  exact this ⟨j, hj⟩
theorem st_700 (S : PS) (a : Nat) (v : Int32) : vals (sI S 700 a v) a 7 = (vals S a 7).set 0 (.int v) := by simp [vals, sI, u2, pI, pR]
theorem st_701 (S : PS) (a : Nat) (v : Int32) : vals (sI S 701 a v) a 7 = (vals S a 7).set 1 (.int v) := by simp [vals, sI, u2, pI, pR]
theorem st_702 (S : PS) (a : Nat) (v : Int32) : vals (sI S 702 a v) a 7 = (vals S a 7).set 2 (.int v) := by simp [vals, sI, u2, pI, pR]
theorem st_703 (S : PS) (a : Nat) (v : Option Nat) : vals (sR S 703 a v) a 7 = (vals S a 7).set 3 (va_rf v) := by simp [vals, sR, u2, pR, pI]
theorem st_704 (S : PS) (a : Nat) (v : Int32) : vals (sI S 704 a v) a 7 = (vals S a 7).set 4 (.int v) := by simp [vals, sI, u2, pI, pR]
theorem st_705 (S : PS) (a : Nat) (v : Int32) : vals (sI S 705 a v) a 7 = (vals S a 7).set 5 (.int v) := by simp [vals, sI, u2, pI, pR]
theorem st_706 (S : PS) (a : Nat) (v : Int32) : vals (sI S 706 a v) a 7 = (vals S a 7).set 6 (.int v) := by simp [vals, sI, u2, pI, pR]
theorem st_707 (S : PS) (a : Nat) (v : Int32) : vals (sI S 707 a v) a 7 = (vals S a 7).set 7 (.int v) := by simp [vals, sI, u2, pI, pR]
theorem st_708 (S : PS) (a : Nat) (v : Int32) : vals (sI S 708 a v) a 7 = (vals S a 7).set 8 (.int v) := by simp [vals, sI, u2, pI, pR]
theorem st_709 (S : PS) (a : Nat) (v : Int32) : vals (sI S 709 a v) a 7 = (vals S a 7).set 9 (.int v) := by simp [vals, sI, u2, pI, pR]
theorem gv_700 (S : PS) (a : Nat) : (vals S a 7)[0]? = some (.int (pI S 700 a)) := rfl
theorem gv_701 (S : PS) (a : Nat) : (vals S a 7)[1]? = some (.int (pI S 701 a)) := rfl
theorem gv_702 (S : PS) (a : Nat) : (vals S a 7)[2]? = some (.int (pI S 702 a)) := rfl
theorem gv_703 (S : PS) (a : Nat) : (vals S a 7)[3]? = some (va_rf (pR S 703 a)) := rfl
theorem gv_704 (S : PS) (a : Nat) : (vals S a 7)[4]? = some (.int (pI S 704 a)) := rfl
theorem gv_705 (S : PS) (a : Nat) : (vals S a 7)[5]? = some (.int (pI S 705 a)) := rfl
theorem gv_706 (S : PS) (a : Nat) : (vals S a 7)[6]? = some (.int (pI S 706 a)) := rfl
theorem gv_707 (S : PS) (a : Nat) : (vals S a 7)[7]? = some (.int (pI S 707 a)) := rfl
theorem gv_708 (S : PS) (a : Nat) : (vals S a 7)[8]? = some (.int (pI S 708 a)) := rfl
theorem gv_709 (S : PS) (a : Nat) : (vals S a 7)[9]? = some (.int (pI S 709 a)) := rfl
theorem zo_7 (k0 : Nat) (S : PS) (q : Nat) : vals (sO S q k0) q 7 = [.int 0, .int 0, .int 0, .null, .int 0, .int 0, .int 0, .int 0, .int 0, .int 0] := by simp [vals, sO, pI, pR, va_rf]
theorem zd_7 : ∀ j, j < 10 → defaultValue (tyX7 j) = vp_V [.int 0, .int 0, .int 0, .null, .int 0, .int 0, .int 0, .int 0, .int 0, .int 0] j := by
  intro j hj
  have : ∀ j : Fin 10, defaultValue (tyX7 j) = vp_V [.int 0, .int 0, .int 0, .null, .int 0, .int 0, .int 0, .int 0, .int 0, .int 0] j := by decide +kernel
  exact this ⟨j, hj⟩
theorem st_800 (S : PS) (a : Nat) (v : Int32) : vals (sI S 800 a v) a 8 = (vals S a 8).set 0 (.int v) := by simp [vals, sI, u2, pI, pR]
theorem st_801 (S : PS) (a : Nat) (v : Int32) : vals (sI S 801 a v) a 8 = (vals S a 8).set 1 (.int v) := by simp [vals, sI, u2, pI, pR]
theorem st_802 (S : PS) (a : Nat) (v : Int32) : vals (sI S 802 a v) a 8 = (vals S a 8).set 2 (.int v) := by simp [vals, sI, u2, pI, pR]
theorem st_803 (S : PS) (a : Nat) (v : Int32) : vals (sI S 803 a v) a 8 = (vals S a 8).set 3 (.int v) := by simp [vals, sI, u2, pI, pR]
theorem st_804 (S : PS) (a : Nat) (v : Int32) : vals (sI S 804 a v) a 8 = (vals S a 8).set 4 (.int v) := by simp [vals, sI, u2, pI, pR]
theorem st_805 (S : PS) (a : Nat) (v : Int32) : vals (sI S 805 a v) a 8 = (vals S a 8).set 5 (.int v) := by simp [vals, sI, u2, pI, pR]
theorem st_806 (S : PS) (a : Nat) (v : Int32) : vals (sI S 806 a v) a 8 = (vals S a 8).set 6 (.int v) := by simp [vals, sI, u2, pI, pR]
theorem st_807 (S : PS) (a : Nat) (v : Option Nat) : vals (sR S 807 a v) a 8 = (vals S a 8).set 7 (va_rf v) := by simp [vals, sR, u2, pR, pI]
theorem st_808 (S : PS) (a : Nat) (v : Option Nat) : vals (sR S 808 a v) a 8 = (vals S a 8).set 8 (va_rf v) := by simp [vals, sR, u2, pR, pI]
theorem st_809 (S : PS) (a : Nat) (v : Option Nat) : vals (sR S 809 a v) a 8 = (vals S a 8).set 9 (va_rf v) := by simp [vals, sR, u2, pR, pI]
theorem st_810 (S : PS) (a : Nat) (v : Option Nat) : vals (sR S 810 a v) a 8 = (vals S a 8).set 10 (va_rf v) := by simp [vals, sR, u2, pR, pI]
theorem st_811 (S : PS) (a : Nat) (v : Option Nat) : vals (sR S 811 a v) a 8 = (vals S a 8).set 11 (va_rf v) := by simp [vals, sR, u2, pR, pI]
theorem st_812 (S : PS) (a : Nat) (v : Option Nat) : vals (sR S 812 a v) a 8 = (vals S a 8).set 12 (va_rf v) := by simp [vals, sR, u2, pR, pI]
theorem gv_800 (S : PS) (a : Nat) : (vals S a 8)[0]? = some (.int (pI S 800 a)) := rfl
theorem gv_801 (S : PS) (a : Nat) : (vals S a 8)[1]? = some (.int (pI S 801 a)) := rfl
theorem gv_802 (S : PS) (a : Nat) : (vals S a 8)[2]? = some (.int (pI S 802 a)) := rfl
theorem gv_803 (S : PS) (a : Nat) : (vals S a 8)[3]? = some (.int (pI S 803 a)) := rfl
theorem gv_804 (S : PS) (a : Nat) : (vals S a 8)[4]? = some (.int (pI S 804 a)) := rfl
theorem gv_805 (S : PS) (a : Nat) : (vals S a 8)[5]? = some (.int (pI S 805 a)) := rfl
theorem gv_806 (S : PS) (a : Nat) : (vals S a 8)[6]? = some (.int (pI S 806 a)) := rfl
theorem gv_807 (S : PS) (a : Nat) : (vals S a 8)[7]? = some (va_rf (pR S 807 a)) := rfl
theorem gv_808 (S : PS) (a : Nat) : (vals S a 8)[8]? = some (va_rf (pR S 808 a)) := rfl
theorem gv_809 (S : PS) (a : Nat) : (vals S a 8)[9]? = some (va_rf (pR S 809 a)) := rfl
theorem gv_810 (S : PS) (a : Nat) : (vals S a 8)[10]? = some (va_rf (pR S 810 a)) := rfl
theorem gv_811 (S : PS) (a : Nat) : (vals S a 8)[11]? = some (va_rf (pR S 811 a)) := rfl
theorem gv_812 (S : PS) (a : Nat) : (vals S a 8)[12]? = some (va_rf (pR S 812 a)) := rfl
theorem zo_8 (k0 : Nat) (S : PS) (q : Nat) : vals (sO S q k0) q 8 = [.int 0, .int 0, .int 0, .int 0, .int 0, .int 0, .int 0, .null, .null, .null, .null, .null, .null] := by simp [vals, sO, pI, pR, va_rf]
theorem zd_8 : ∀ j, j < 13 → defaultValue (tyX8 j) = vp_V [.int 0, .int 0, .int 0, .int 0, .int 0, .int 0, .int 0, .null, .null, .null, .null, .null, .null] j := by
  intro j hj
  have : ∀ j : Fin 13, defaultValue (tyX8 j) = vp_V [.int 0, .int 0, .int 0, .int 0, .int 0, .int 0, .int 0, .null, .null, .null, .null, .null, .null] j := by decide +kernel
  exact this ⟨j, hj⟩
theorem st_900 (S : PS) (a : Nat) (v : Option Nat) : vals (sR S 900 a v) a 9 = (vals S a 9).set 0 (va_rf v) := by simp [vals, sR, u2, pR, pI]
theorem st_901 (S : PS) (a : Nat) (v : Option Nat) : vals (sR S 901 a v) a 9 = (vals S a 9).set 1 (va_rf v) := by simp [vals, sR, u2, pR, pI]
theorem st_902 (S : PS) (a : Nat) (v : Int32) : vals (sI S 902 a v) a 9 = (vals S a 9).set 2 (.int v) := by simp [vals, sI, u2, pI, pR]
theorem st_903 (S : PS) (a : Nat) (v : Int32) : vals (sI S 903 a v) a 9 = (vals S a 9).set 3 (.int v) := by simp [vals, sI, u2, pI, pR]
theorem st_904 (S : PS) (a : Nat) (v : Int32) : vals (sI S 904 a v) a 9 = (vals S a 9).set 4 (.int v) := by simp [vals, sI, u2, pI, pR]
theorem st_905 (S : PS) (a : Nat) (v : Option Nat) : vals (sR S 905 a v) a 9 = (vals S a 9).set 5 (va_rf v) := by simp [vals, sR, u2, pR, pI]
theorem st_906 (S : PS) (a : Nat) (v : Option Nat) : vals (sR S 906 a v) a 9 = (vals S a 9).set 6 (va_rf v) := by simp [vals, sR, u2, pR, pI]
theorem st_907 (S : PS) (a : Nat) (v : Option Nat) : vals (sR S 907 a v) a 9 = (vals S a 9).set 7 (va_rf v) := by simp [vals, sR, u2, pR, pI]
theorem st_908 (S : PS) (a : Nat) (v : Option Nat) : vals (sR S 908 a v) a 9 = (vals S a 9).set 8 (va_rf v) := by simp [vals, sR, u2, pR, pI]
theorem gv_900 (S : PS) (a : Nat) : (vals S a 9)[0]? = some (va_rf (pR S 900 a)) := rfl
theorem gv_901 (S : PS) (a : Nat) : (vals S a 9)[1]? = some (va_rf (pR S 901 a)) := rfl
theorem gv_902 (S : PS) (a : Nat) : (vals S a 9)[2]? = some (.int (pI S 902 a)) := rfl
theorem gv_903 (S : PS) (a : Nat) : (vals S a 9)[3]? = some (.int (pI S 903 a)) := rfl
theorem gv_904 (S : PS) (a : Nat) : (vals S a 9)[4]? = some (.int (pI S 904 a)) := rfl
theorem gv_905 (S : PS) (a : Nat) : (vals S a 9)[5]? = some (va_rf (pR S 905 a)) := rfl
theorem gv_906 (S : PS) (a : Nat) : (vals S a 9)[6]? = some (va_rf (pR S 906 a)) := rfl
theorem gv_907 (S : PS) (a : Nat) : (vals S a 9)[7]? = some (va_rf (pR S 907 a)) := rfl
theorem gv_908 (S : PS) (a : Nat) : (vals S a 9)[8]? = some (va_rf (pR S 908 a)) := rfl
theorem zo_9 (k0 : Nat) (S : PS) (q : Nat) : vals (sO S q k0) q 9 = [.null, .null, .int 0, .int 0, .int 0, .null, .null, .null, .null] := by simp [vals, sO, pI, pR, va_rf]
theorem zd_9 : ∀ j, j < 9 → defaultValue (tyX9 j) = vp_V [.null, .null, .int 0, .int 0, .int 0, .null, .null, .null, .null] j := by
  intro j hj
  have : ∀ j : Fin 9, defaultValue (tyX9 j) = vp_V [.null, .null, .int 0, .int 0, .int 0, .null, .null, .null, .null] j := by decide +kernel
  exact this ⟨j, hj⟩
theorem st_1000 (S : PS) (a : Nat) (v : Int32) : vals (sI S 1000 a v) a 10 = (vals S a 10).set 0 (.int v) := by simp [vals, sI, u2, pI, pR]
theorem st_1001 (S : PS) (a : Nat) (v : Int32) : vals (sI S 1001 a v) a 10 = (vals S a 10).set 1 (.int v) := by simp [vals, sI, u2, pI, pR]
theorem st_1002 (S : PS) (a : Nat) (v : Int32) : vals (sI S 1002 a v) a 10 = (vals S a 10).set 2 (.int v) := by simp [vals, sI, u2, pI, pR]
theorem st_1003 (S : PS) (a : Nat) (v : Option Nat) : vals (sR S 1003 a v) a 10 = (vals S a 10).set 3 (va_rf v) := by simp [vals, sR, u2, pR, pI]
theorem st_1004 (S : PS) (a : Nat) (v : Int32) : vals (sI S 1004 a v) a 10 = (vals S a 10).set 4 (.int v) := by simp [vals, sI, u2, pI, pR]
theorem st_1005 (S : PS) (a : Nat) (v : Int32) : vals (sI S 1005 a v) a 10 = (vals S a 10).set 5 (.int v) := by simp [vals, sI, u2, pI, pR]
theorem st_1006 (S : PS) (a : Nat) (v : Int32) : vals (sI S 1006 a v) a 10 = (vals S a 10).set 6 (.int v) := by simp [vals, sI, u2, pI, pR]
theorem gv_1000 (S : PS) (a : Nat) : (vals S a 10)[0]? = some (.int (pI S 1000 a)) := rfl
theorem gv_1001 (S : PS) (a : Nat) : (vals S a 10)[1]? = some (.int (pI S 1001 a)) := rfl
theorem gv_1002 (S : PS) (a : Nat) : (vals S a 10)[2]? = some (.int (pI S 1002 a)) := rfl
theorem gv_1003 (S : PS) (a : Nat) : (vals S a 10)[3]? = some (va_rf (pR S 1003 a)) := rfl
theorem gv_1004 (S : PS) (a : Nat) : (vals S a 10)[4]? = some (.int (pI S 1004 a)) := rfl
theorem gv_1005 (S : PS) (a : Nat) : (vals S a 10)[5]? = some (.int (pI S 1005 a)) := rfl
theorem gv_1006 (S : PS) (a : Nat) : (vals S a 10)[6]? = some (.int (pI S 1006 a)) := rfl
theorem zo_10 (k0 : Nat) (S : PS) (q : Nat) : vals (sO S q k0) q 10 = [.int 0, .int 0, .int 0, .null, .int 0, .int 0, .int 0] := by simp [vals, sO, pI, pR, va_rf]
theorem zd_10 : ∀ j, j < 7 → defaultValue (tyX10 j) = vp_V [.int 0, .int 0, .int 0, .null, .int 0, .int 0, .int 0] j := by
  intro j hj
  have : ∀ j : Fin 7, defaultValue (tyX10 j) = vp_V [.int 0, .int 0, .int 0, .null, .int 0, .int 0, .int 0] j := by decide +kernel
  exact this ⟨j, hj⟩
theorem st_1100 (S : PS) (a : Nat) (v : Option Nat) : vals (sR S 1100 a v) a 11 = (vals S a 11).set 0 (va_rf v) := by simp [vals, sR, u2, pR, pI]
theorem st_1101 (S : PS) (a : Nat) (v : Option Nat) : vals (sR S 1101 a v) a 11 = (vals S a 11).set 1 (va_rf v) := by simp [vals, sR, u2, pR, pI]
theorem st_1102 (S : PS) (a : Nat) (v : Int32) : vals (sI S 1102 a v) a 11 = (vals S a 11).set 2 (.int v) := by simp [vals, sI, u2, pI, pR]
theorem st_1103 (S : PS) (a : Nat) (v : Option Nat) : vals (sR S 1103 a v) a 11 = (vals S a 11).set 3 (va_rf v) := by simp [vals, sR, u2, pR, pI]
theorem st_1104 (S : PS) (a : Nat) (v : Int32) : vals (sI S 1104 a v) a 11 = (vals S a 11).set 4 (.int v) := by simp [vals, sI, u2, pI, pR]
theorem st_1105 (S : PS) (a : Nat) (v : Option Nat) : vals (sR S 1105 a v) a 11 = (vals S a 11).set 5 (va_rf v) := by simp [vals, sR, u2, pR, pI]
theorem st_1106 (S : PS) (a : Nat) (v : Option Nat) : vals (sR S 1106 a v) a 11 = (vals S a 11).set 6 (va_rf v) := by simp [vals, sR, u2, pR, pI]
theorem st_1107 (S : PS) (a : Nat) (v : Option Nat) : vals (sR S 1107 a v) a 11 = (vals S a 11).set 7 (va_rf v) := by simp [vals, sR, u2, pR, pI]
theorem st_1108 (S : PS) (a : Nat) (v : Option Nat) : vals (sR S 1108 a v) a 11 = (vals S a 11).set 8 (va_rf v) := by simp [vals, sR, u2, pR, pI]
theorem st_1109 (S : PS) (a : Nat) (v : Option Nat) : vals (sR S 1109 a v) a 11 = (vals S a 11).set 9 (va_rf v) := by simp [vals, sR, u2, pR, pI]
theorem st_1110 (S : PS) (a : Nat) (v : Int32) : vals (sI S 1110 a v) a 11 = (vals S a 11).set 10 (.int v) := by simp [vals, sI, u2, pI, pR]
theorem st_1111 (S : PS) (a : Nat) (v : Option Nat) : vals (sR S 1111 a v) a 11 = (vals S a 11).set 11 (va_rf v) := by simp [vals, sR, u2, pR, pI]
theorem gv_1100 (S : PS) (a : Nat) : (vals S a 11)[0]? = some (va_rf (pR S 1100 a)) := rfl
theorem gv_1101 (S : PS) (a : Nat) : (vals S a 11)[1]? = some (va_rf (pR S 1101 a)) := rfl
theorem gv_1102 (S : PS) (a : Nat) : (vals S a 11)[2]? = some (.int (pI S 1102 a)) := rfl
theorem gv_1103 (S : PS) (a : Nat) : (vals S a 11)[3]? = some (va_rf (pR S 1103 a)) := rfl
theorem gv_1104 (S : PS) (a : Nat) : (vals S a 11)[4]? = some (.int (pI S 1104 a)) := rfl
theorem gv_1105 (S : PS) (a : Nat) : (vals S a 11)[5]? = some (va_rf (pR S 1105 a)) := rfl
theorem gv_1106 (S : PS) (a : Nat) : (vals S a 11)[6]? = some (va_rf (pR S 1106 a)) := rfl
theorem gv_1107 (S : PS) (a : Nat) : (vals S a 11)[7]? = some (va_rf (pR S 1107 a)) := rfl
theorem gv_1108 (S : PS) (a : Nat) : (vals S a 11)[8]? = some (va_rf (pR S 1108 a)) := rfl
theorem gv_1109 (S : PS) (a : Nat) : (vals S a 11)[9]? = some (va_rf (pR S 1109 a)) := rfl
theorem gv_1110 (S : PS) (a : Nat) : (vals S a 11)[10]? = some (.int (pI S 1110 a)) := rfl
theorem gv_1111 (S : PS) (a : Nat) : (vals S a 11)[11]? = some (va_rf (pR S 1111 a)) := rfl
theorem zo_11 (k0 : Nat) (S : PS) (q : Nat) : vals (sO S q k0) q 11 = [.null, .null, .int 0, .null, .int 0, .null, .null, .null, .null, .null, .int 0, .null] := by simp [vals, sO, pI, pR, va_rf]
theorem zd_11 : ∀ j, j < 12 → defaultValue (tyX11 j) = vp_V [.null, .null, .int 0, .null, .int 0, .null, .null, .null, .null, .null, .int 0, .null] j := by
  intro j hj
  have : ∀ j : Fin 12, defaultValue (tyX11 j) = vp_V [.null, .null, .int 0, .null, .int 0, .null, .null, .null, .null, .null, .int 0, .null] j := by decide +kernel
  exact this ⟨j, hj⟩
theorem st_1200 (S : PS) (a : Nat) (v : Int32) : vals (sI S 1200 a v) a 12 = (vals S a 12).set 0 (.int v) := by simp [vals, sI, u2, pI, pR]
theorem st_1201 (S : PS) (a : Nat) (v : Int32) : vals (sI S 1201 a v) a 12 = (vals S a 12).set 1 (.int v) := by simp [vals, sI, u2, pI, pR]
theorem st_1202 (S : PS) (a : Nat) (v : Option Nat) : vals (sR S 1202 a v) a 12 = (vals S a 12).set 2 (va_rf v) := by simp [vals, sR, u2, pR, pI]
theorem st_1203 (S : PS) (a : Nat) (v : Option Nat) : vals (sR S 1203 a v) a 12 = (vals S a 12).set 3 (va_rf v) := by simp [vals, sR, u2, pR, pI]
theorem st_1204 (S : PS) (a : Nat) (v : Option Nat) : vals (sR S 1204 a v) a 12 = (vals S a 12).set 4 (va_rf v) := by simp [vals, sR, u2, pR, pI]
theorem st_1205 (S : PS) (a : Nat) (v : Option Nat) : vals (sR S 1205 a v) a 12 = (vals S a 12).set 5 (va_rf v) := by simp [vals, sR, u2, pR, pI]
theorem st_1206 (S : PS) (a : Nat) (v : Option Nat) : vals (sR S 1206 a v) a 12 = (vals S a 12).set 6 (va_rf v) := by simp [vals, sR, u2, pR, pI]
theorem st_1207 (S : PS) (a : Nat) (v : Option Nat) : vals (sR S 1207 a v) a 12 = (vals S a 12).set 7 (va_rf v) := by simp [vals, sR, u2, pR, pI]
theorem st_1208 (S : PS) (a : Nat) (v : Option Nat) : vals (sR S 1208 a v) a 12 = (vals S a 12).set 8 (va_rf v) := by simp [vals, sR, u2, pR, pI]
theorem st_1209 (S : PS) (a : Nat) (v : Option Nat) : vals (sR S 1209 a v) a 12 = (vals S a 12).set 9 (va_rf v) := by simp [vals, sR, u2, pR, pI]
theorem st_1210 (S : PS) (a : Nat) (v : Option Nat) : vals (sR S 1210 a v) a 12 = (vals S a 12).set 10 (va_rf v) := by simp [vals, sR, u2, pR, pI]
theorem st_1211 (S : PS) (a : Nat) (v : Int32) : vals (sI S 1211 a v) a 12 = (vals S a 12).set 11 (.int v) := by simp [vals, sI, u2, pI, pR]
theorem st_1212 (S : PS) (a : Nat) (v : Option Nat) : vals (sR S 1212 a v) a 12 = (vals S a 12).set 12 (va_rf v) := by simp [vals, sR, u2, pR, pI]
theorem st_1213 (S : PS) (a : Nat) (v : Option Nat) : vals (sR S 1213 a v) a 12 = (vals S a 12).set 13 (va_rf v) := by simp [vals, sR, u2, pR, pI]
theorem st_1214 (S : PS) (a : Nat) (v : Option Nat) : vals (sR S 1214 a v) a 12 = (vals S a 12).set 14 (va_rf v) := by simp [vals, sR, u2, pR, pI]
theorem st_1215 (S : PS) (a : Nat) (v : Option Nat) : vals (sR S 1215 a v) a 12 = (vals S a 12).set 15 (va_rf v) := by simp [vals, sR, u2, pR, pI]
theorem st_1216 (S : PS) (a : Nat) (v : Option Nat) : vals (sR S 1216 a v) a 12 = (vals S a 12).set 16 (va_rf v) := by simp [vals, sR, u2, pR, pI]
theorem st_1217 (S : PS) (a : Nat) (v : Option Nat) : vals (sR S 1217 a v) a 12 = (vals S a 12).set 17 (va_rf v) := by simp [vals, sR, u2, pR, pI]
theorem st_1218 (S : PS) (a : Nat) (v : Option Nat) : vals (sR S 1218 a v) a 12 = (vals S a 12).set 18 (va_rf v) := by simp [vals, sR, u2, pR, pI]
theorem st_1219 (S : PS) (a : Nat) (v : Option Nat) : vals (sR S 1219 a v) a 12 = (vals S a 12).set 19 (va_rf v) := by simp [vals, sR, u2, pR, pI]
theorem st_1220 (S : PS) (a : Nat) (v : Option Nat) : vals (sR S 1220 a v) a 12 = (vals S a 12).set 20 (va_rf v) := by simp [vals, sR, u2, pR, pI]
theorem st_1221 (S : PS) (a : Nat) (v : Option Nat) : vals (sR S 1221 a v) a 12 = (vals S a 12).set 21 (va_rf v) := by simp [vals, sR, u2, pR, pI]
theorem st_1222 (S : PS) (a : Nat) (v : Option Nat) : vals (sR S 1222 a v) a 12 = (vals S a 12).set 22 (va_rf v) := by simp [vals, sR, u2, pR, pI]
theorem st_1223 (S : PS) (a : Nat) (v : Option Nat) : vals (sR S 1223 a v) a 12 = (vals S a 12).set 23 (va_rf v) := by simp [vals, sR, u2, pR, pI]
theorem st_1224 (S : PS) (a : Nat) (v : Option Nat) : vals (sR S 1224 a v) a 12 = (vals S a 12).set 24 (va_rf v) := by simp [vals, sR, u2, pR, pI]
theorem st_1225 (S : PS) (a : Nat) (v : Option Nat) : vals (sR S 1225 a v) a 12 = (vals S a 12).set 25 (va_rf v) := by simp [vals, sR, u2, pR, pI]
theorem st_1226 (S : PS) (a : Nat) (v : Option Nat) : vals (sR S 1226 a v) a 12 = (vals S a 12).set 26 (va_rf v) := by simp [vals, sR, u2, pR, pI]
theorem st_1227 (S : PS) (a : Nat) (v : Option Nat) : vals (sR S 1227 a v) a 12 = (vals S a 12).set 27 (va_rf v) := by simp [vals, sR, u2, pR, pI]
theorem st_1228 (S : PS) (a : Nat) (v : Int32) : vals (sI S 1228 a v) a 12 = (vals S a 12).set 28 (.int v) := by simp [vals, sI, u2, pI, pR]
theorem st_1229 (S : PS) (a : Nat) (v : Int32) : vals (sI S 1229 a v) a 12 = (vals S a 12).set 29 (.int v) := by simp [vals, sI, u2, pI, pR]
theorem st_1230 (S : PS) (a : Nat) (v : Int32) : vals (sI S 1230 a v) a 12 = (vals S a 12).set 30 (.int v) := by simp [vals, sI, u2, pI, pR]
theorem st_1231 (S : PS) (a : Nat) (v : Int32) : vals (sI S 1231 a v) a 12 = (vals S a 12).set 31 (.int v) := by simp [vals, sI, u2, pI, pR]
theorem st_1232 (S : PS) (a : Nat) (v : Int32) : vals (sI S 1232 a v) a 12 = (vals S a 12).set 32 (.int v) := by simp [vals, sI, u2, pI, pR]
theorem st_1233 (S : PS) (a : Nat) (v : Int32) : vals (sI S 1233 a v) a 12 = (vals S a 12).set 33 (.int v) := by simp [vals, sI, u2, pI, pR]
theorem st_1234 (S : PS) (a : Nat) (v : Int32) : vals (sI S 1234 a v) a 12 = (vals S a 12).set 34 (.int v) := by simp [vals, sI, u2, pI, pR]
theorem st_1235 (S : PS) (a : Nat) (v : Option Nat) : vals (sR S 1235 a v) a 12 = (vals S a 12).set 35 (va_rf v) := by simp [vals, sR, u2, pR, pI]
theorem st_1236 (S : PS) (a : Nat) (v : Option Nat) : vals (sR S 1236 a v) a 12 = (vals S a 12).set 36 (va_rf v) := by simp [vals, sR, u2, pR, pI]
theorem st_1237 (S : PS) (a : Nat) (v : Option Nat) : vals (sR S 1237 a v) a 12 = (vals S a 12).set 37 (va_rf v) := by simp [vals, sR, u2, pR, pI]
theorem st_1238 (S : PS) (a : Nat) (v : Int32) : vals (sI S 1238 a v) a 12 = (vals S a 12).set 38 (.int v) := by simp [vals, sI, u2, pI, pR]
theorem st_1239 (S : PS) (a : Nat) (v : Option Nat) : vals (sR S 1239 a v) a 12 = (vals S a 12).set 39 (va_rf v) := by simp [vals, sR, u2, pR, pI]
theorem st_1240 (S : PS) (a : Nat) (v : Option Nat) : vals (sR S 1240 a v) a 12 = (vals S a 12).set 40 (va_rf v) := by simp [vals, sR, u2, pR, pI]
theorem st_1241 (S : PS) (a : Nat) (v : Option Nat) : vals (sR S 1241 a v) a 12 = (vals S a 12).set 41 (va_rf v) := by simp [vals, sR, u2, pR, pI]
theorem st_1242 (S : PS) (a : Nat) (v : Option Nat) : vals (sR S 1242 a v) a 12 = (vals S a 12).set 42 (va_rf v) := by simp [vals, sR, u2, pR, pI]
theorem st_1243 (S : PS) (a : Nat) (v : Option Nat) : vals (sR S 1243 a v) a 12 = (vals S a 12).set 43 (va_rf v) := by simp [vals, sR, u2, pR, pI]
theorem st_1244 (S : PS) (a : Nat) (v : Option Nat) : vals (sR S 1244 a v) a 12 = (vals S a 12).set 44 (va_rf v) := by simp [vals, sR, u2, pR, pI]
theorem st_1245 (S : PS) (a : Nat) (v : Int32) : vals (sI S 1245 a v) a 12 = (vals S a 12).set 45 (.int v) := by simp [vals, sI, u2, pI, pR]
theorem st_1246 (S : PS) (a : Nat) (v : Int32) : vals (sI S 1246 a v) a 12 = (vals S a 12).set 46 (.int v) := by simp [vals, sI, u2, pI, pR]
theorem st_1247 (S : PS) (a : Nat) (v : Int32) : vals (sI S 1247 a v) a 12 = (vals S a 12).set 47 (.int v) := by simp [vals, sI, u2, pI, pR]
theorem st_1248 (S : PS) (a : Nat) (v : Option Nat) : vals (sR S 1248 a v) a 12 = (vals S a 12).set 48 (va_rf v) := by simp [vals, sR, u2, pR, pI]
theorem st_1249 (S : PS) (a : Nat) (v : Int32) : vals (sI S 1249 a v) a 12 = (vals S a 12).set 49 (.int v) := by simp [vals, sI, u2, pI, pR]
theorem st_1250 (S : PS) (a : Nat) (v : Int32) : vals (sI S 1250 a v) a 12 = (vals S a 12).set 50 (.int v) := by simp [vals, sI, u2, pI, pR]
theorem st_1251 (S : PS) (a : Nat) (v : Int32) : vals (sI S 1251 a v) a 12 = (vals S a 12).set 51 (.int v) := by simp [vals, sI, u2, pI, pR]
theorem st_1252 (S : PS) (a : Nat) (v : Option Nat) : vals (sR S 1252 a v) a 12 = (vals S a 12).set 52 (va_rf v) := by simp [vals, sR, u2, pR, pI]
theorem st_1253 (S : PS) (a : Nat) (v : Option Nat) : vals (sR S 1253 a v) a 12 = (vals S a 12).set 53 (va_rf v) := by simp [vals, sR, u2, pR, pI]
theorem st_1254 (S : PS) (a : Nat) (v : Option Nat) : vals (sR S 1254 a v) a 12 = (vals S a 12).set 54 (va_rf v) := by simp [vals, sR, u2, pR, pI]
theorem st_1255 (S : PS) (a : Nat) (v : Option Nat) : vals (sR S 1255 a v) a 12 = (vals S a 12).set 55 (va_rf v) := by simp [vals, sR, u2, pR, pI]
theorem st_1256 (S : PS) (a : Nat) (v : Option Nat) : vals (sR S 1256 a v) a 12 = (vals S a 12).set 56 (va_rf v) := by simp [vals, sR, u2, pR, pI]
theorem st_1257 (S : PS) (a : Nat) (v : Option Nat) : vals (sR S 1257 a v) a 12 = (vals S a 12).set 57 (va_rf v) := by simp [vals, sR, u2, pR, pI]
theorem st_1258 (S : PS) (a : Nat) (v : Option Nat) : vals (sR S 1258 a v) a 12 = (vals S a 12).set 58 (va_rf v) := by simp [vals, sR, u2, pR, pI]
theorem st_1259 (S : PS) (a : Nat) (v : Option Nat) : vals (sR S 1259 a v) a 12 = (vals S a 12).set 59 (va_rf v) := by simp [vals, sR, u2, pR, pI]
theorem st_1260 (S : PS) (a : Nat) (v : Option Nat) : vals (sR S 1260 a v) a 12 = (vals S a 12).set 60 (va_rf v) := by simp [vals, sR, u2, pR, pI]
theorem st_1261 (S : PS) (a : Nat) (v : Option Nat) : vals (sR S 1261 a v) a 12 = (vals S a 12).set 61 (va_rf v) := by simp [vals, sR, u2, pR, pI]
theorem st_1262 (S : PS) (a : Nat) (v : Int32) : vals (sI S 1262 a v) a 12 = (vals S a 12).set 62 (.int v) := by simp [vals, sI, u2, pI, pR]
theorem st_1263 (S : PS) (a : Nat) (v : Option Nat) : vals (sR S 1263 a v) a 12 = (vals S a 12).set 63 (va_rf v) := by simp [vals, sR, u2, pR, pI]
theorem st_1264 (S : PS) (a : Nat) (v : Option Nat) : vals (sR S 1264 a v) a 12 = (vals S a 12).set 64 (va_rf v) := by simp [vals, sR, u2, pR, pI]
theorem st_1265 (S : PS) (a : Nat) (v : Option Nat) : vals (sR S 1265 a v) a 12 = (vals S a 12).set 65 (va_rf v) := by simp [vals, sR, u2, pR, pI]
theorem gv_1200 (S : PS) (a : Nat) : (vals S a 12)[0]? = some (.int (pI S 1200 a)) := rfl
theorem gv_1201 (S : PS) (a : Nat) : (vals S a 12)[1]? = some (.int (pI S 1201 a)) := rfl
theorem gv_1202 (S : PS) (a : Nat) : (vals S a 12)[2]? = some (va_rf (pR S 1202 a)) := rfl
theorem gv_1203 (S : PS) (a : Nat) : (vals S a 12)[3]? = some (va_rf (pR S 1203 a)) := rfl
theorem gv_1204 (S : PS) (a : Nat) : (vals S a 12)[4]? = some (va_rf (pR S 1204 a)) := rfl
theorem gv_1205 (S : PS) (a : Nat) : (vals S a 12)[5]? = some (va_rf (pR S 1205 a)) := rfl
theorem gv_1206 (S : PS) (a : Nat) : (vals S a 12)[6]? = some (va_rf (pR S 1206 a)) := rfl
theorem gv_1207 (S : PS) (a : Nat) : (vals S a 12)[7]? = some (va_rf (pR S 1207 a)) := rfl
theorem gv_1208 (S : PS) (a : Nat) : (vals S a 12)[8]? = some (va_rf (pR S 1208 a)) := rfl
theorem gv_1209 (S : PS) (a : Nat) : (vals S a 12)[9]? = some (va_rf (pR S 1209 a)) := rfl
theorem gv_1210 (S : PS) (a : Nat) : (vals S a 12)[10]? = some (va_rf (pR S 1210 a)) := rfl
theorem gv_1211 (S : PS) (a : Nat) : (vals S a 12)[11]? = some (.int (pI S 1211 a)) := rfl
theorem gv_1212 (S : PS) (a : Nat) : (vals S a 12)[12]? = some (va_rf (pR S 1212 a)) := rfl
theorem gv_1213 (S : PS) (a : Nat) : (vals S a 12)[13]? = some (va_rf (pR S 1213 a)) := rfl
theorem gv_1214 (S : PS) (a : Nat) : (vals S a 12)[14]? = some (va_rf (pR S 1214 a)) := rfl
theorem gv_1215 (S : PS) (a : Nat) : (vals S a 12)[15]? = some (va_rf (pR S 1215 a)) := rfl
theorem gv_1216 (S : PS) (a : Nat) : (vals S a 12)[16]? = some (va_rf (pR S 1216 a)) := rfl
theorem gv_1217 (S : PS) (a : Nat) : (vals S a 12)[17]? = some (va_rf (pR S 1217 a)) := rfl
theorem gv_1218 (S : PS) (a : Nat) : (vals S a 12)[18]? = some (va_rf (pR S 1218 a)) := rfl
theorem gv_1219 (S : PS) (a : Nat) : (vals S a 12)[19]? = some (va_rf (pR S 1219 a)) := rfl
theorem gv_1220 (S : PS) (a : Nat) : (vals S a 12)[20]? = some (va_rf (pR S 1220 a)) := rfl
theorem gv_1221 (S : PS) (a : Nat) : (vals S a 12)[21]? = some (va_rf (pR S 1221 a)) := rfl
theorem gv_1222 (S : PS) (a : Nat) : (vals S a 12)[22]? = some (va_rf (pR S 1222 a)) := rfl
theorem gv_1223 (S : PS) (a : Nat) : (vals S a 12)[23]? = some (va_rf (pR S 1223 a)) := rfl
theorem gv_1224 (S : PS) (a : Nat) : (vals S a 12)[24]? = some (va_rf (pR S 1224 a)) := rfl
theorem gv_1225 (S : PS) (a : Nat) : (vals S a 12)[25]? = some (va_rf (pR S 1225 a)) := rfl
theorem gv_1226 (S : PS) (a : Nat) : (vals S a 12)[26]? = some (va_rf (pR S 1226 a)) := rfl
theorem gv_1227 (S : PS) (a : Nat) : (vals S a 12)[27]? = some (va_rf (pR S 1227 a)) := rfl
theorem gv_1228 (S : PS) (a : Nat) : (vals S a 12)[28]? = some (.int (pI S 1228 a)) := rfl
theorem gv_1229 (S : PS) (a : Nat) : (vals S a 12)[29]? = some (.int (pI S 1229 a)) := rfl
theorem gv_1230 (S : PS) (a : Nat) : (vals S a 12)[30]? = some (.int (pI S 1230 a)) := rfl
theorem gv_1231 (S : PS) (a : Nat) : (vals S a 12)[31]? = some (.int (pI S 1231 a)) := rfl
theorem gv_1232 (S : PS) (a : Nat) : (vals S a 12)[32]? = some (.int (pI S 1232 a)) := rfl
theorem gv_1233 (S : PS) (a : Nat) : (vals S a 12)[33]? = some (.int (pI S 1233 a)) := rfl
theorem gv_1234 (S : PS) (a : Nat) : (vals S a 12)[34]? = some (.int (pI S 1234 a)) := rfl
theorem gv_1235 (S : PS) (a : Nat) : (vals S a 12)[35]? = some (va_rf (pR S 1235 a)) := rfl
theorem gv_1236 (S : PS) (a : Nat) : (vals S a 12)[36]? = some (va_rf (pR S 1236 a)) := rfl
theorem gv_1237 (S : PS) (a : Nat) : (vals S a 12)[37]? = some (va_rf (pR S 1237 a)) := rfl
theorem gv_1238 (S : PS) (a : Nat) : (vals S a 12)[38]? = some (.int (pI S 1238 a)) := rfl
theorem gv_1239 (S : PS) (a : Nat) : (vals S a 12)[39]? = some (va_rf (pR S 1239 a)) := rfl
theorem gv_1240 (S : PS) (a : Nat) : (vals S a 12)[40]? = some (va_rf (pR S 1240 a)) := rfl
theorem gv_1241 (S : PS) (a : Nat) : (vals S a 12)[41]? = some (va_rf (pR S 1241 a)) := rfl
theorem gv_1242 (S : PS) (a : Nat) : (vals S a 12)[42]? = some (va_rf (pR S 1242 a)) := rfl
theorem gv_1243 (S : PS) (a : Nat) : (vals S a 12)[43]? = some (va_rf (pR S 1243 a)) := rfl
theorem gv_1244 (S : PS) (a : Nat) : (vals S a 12)[44]? = some (va_rf (pR S 1244 a)) := rfl
theorem gv_1245 (S : PS) (a : Nat) : (vals S a 12)[45]? = some (.int (pI S 1245 a)) := rfl
theorem gv_1246 (S : PS) (a : Nat) : (vals S a 12)[46]? = some (.int (pI S 1246 a)) := rfl
theorem gv_1247 (S : PS) (a : Nat) : (vals S a 12)[47]? = some (.int (pI S 1247 a)) := rfl
theorem gv_1248 (S : PS) (a : Nat) : (vals S a 12)[48]? = some (va_rf (pR S 1248 a)) := rfl
theorem gv_1249 (S : PS) (a : Nat) : (vals S a 12)[49]? = some (.int (pI S 1249 a)) := rfl
theorem gv_1250 (S : PS) (a : Nat) : (vals S a 12)[50]? = some (.int (pI S 1250 a)) := rfl
theorem gv_1251 (S : PS) (a : Nat) : (vals S a 12)[51]? = some (.int (pI S 1251 a)) := rfl
theorem gv_1252 (S : PS) (a : Nat) : (vals S a 12)[52]? = some (va_rf (pR S 1252 a)) := rfl
theorem gv_1253 (S : PS) (a : Nat) : (vals S a 12)[53]? = some (va_rf (pR S 1253 a)) := rfl
theorem gv_1254 (S : PS) (a : Nat) : (vals S a 12)[54]? = some (va_rf (pR S 1254 a)) := rfl
theorem gv_1255 (S : PS) (a : Nat) : (vals S a 12)[55]? = some (va_rf (pR S 1255 a)) := rfl
theorem gv_1256 (S : PS) (a : Nat) : (vals S a 12)[56]? = some (va_rf (pR S 1256 a)) := rfl
theorem gv_1257 (S : PS) (a : Nat) : (vals S a 12)[57]? = some (va_rf (pR S 1257 a)) := rfl
theorem gv_1258 (S : PS) (a : Nat) : (vals S a 12)[58]? = some (va_rf (pR S 1258 a)) := rfl
theorem gv_1259 (S : PS) (a : Nat) : (vals S a 12)[59]? = some (va_rf (pR S 1259 a)) := rfl
theorem gv_1260 (S : PS) (a : Nat) : (vals S a 12)[60]? = some (va_rf (pR S 1260 a)) := rfl
theorem gv_1261 (S : PS) (a : Nat) : (vals S a 12)[61]? = some (va_rf (pR S 1261 a)) := rfl
theorem gv_1262 (S : PS) (a : Nat) : (vals S a 12)[62]? = some (.int (pI S 1262 a)) := rfl
theorem gv_1263 (S : PS) (a : Nat) : (vals S a 12)[63]? = some (va_rf (pR S 1263 a)) := rfl
theorem gv_1264 (S : PS) (a : Nat) : (vals S a 12)[64]? = some (va_rf (pR S 1264 a)) := rfl
theorem gv_1265 (S : PS) (a : Nat) : (vals S a 12)[65]? = some (va_rf (pR S 1265 a)) := rfl
theorem zo_12 (k0 : Nat) (S : PS) (q : Nat) : vals (sO S q k0) q 12 = [.int 0, .int 0, .null, .null, .null, .null, .null, .null, .null, .null, .null, .int 0, .null, .null, .null, .null, .null, .null, .null, .null, .null, .null, .null, .null, .null, .null, .null, .null, .int 0, .int 0, .int 0, .int 0, .int 0, .int 0, .int 0, .null, .null, .null, .int 0, .null, .null, .null, .null, .null, .null, .int 0, .int 0, .int 0, .null, .int 0, .int 0, .int 0, .null, .null, .null, .null, .null, .null, .null, .null, .null, .null, .int 0, .null, .null, .null] := by simp [vals, sO, pI, pR, va_rf]
theorem zd_12 : ∀ j, j < 66 → defaultValue (tyX12 j) = vp_V [.int 0, .int 0, .null, .null, .null, .null, .null, .null, .null, .null, .null, .int 0, .null, .null, .null, .null, .null, .null, .null, .null, .null, .null, .null, .null, .null, .null, .null, .null, .int 0, .int 0, .int 0, .int 0, .int 0, .int 0, .int 0, .null, .null, .null, .int 0, .null, .null, .null, .null, .null, .null, .int 0, .int 0, .int 0, .null, .int 0, .int 0, .int 0, .null, .null, .null, .null, .null, .null, .null, .null, .null, .null, .int 0, .null, .null, .null] j := by
  intro j hj
  have : ∀ j : Fin 66, defaultValue (tyX12 j) = vp_V [.int 0, .int 0, .null, .null, .null, .null, .null, .null, .null, .null, .null, .int 0, .null, .null, .null, .null, .null, .null, .null, .null, .null, .null, .null, .null, .null, .null, .null, .null, .int 0, .int 0, .int 0, .int 0, .int 0, .int 0, .int 0, .null, .null, .null, .int 0, .null, .null, .null, .null, .null, .null, .int 0, .int 0, .int 0, .null, .int 0, .int 0, .int 0, .null, .null, .null, .null, .null, .null, .null, .null, .null, .null, .int 0, .null, .null, .null] j := by decide +kernel
  exact this ⟨j, hj⟩

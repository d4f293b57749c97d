def pkG : List Nat → List Cond → List Cond
  | [], _ => []
  | g :: gs, l => match l.drop g with
    | [] => []
    | x :: r => x :: pkG gs r
theorem pkG_in : ∀ (gs : List Nat) (l : List Cond) (w : Cond), w ∈ pkG gs l → w ∈ l := by
  intro gs
  induction gs with
  | nil => intro l w h; simp [pkG] at h
  | cons g gs ih =>
    intro l w h
    unfold pkG at h
    cases hd : l.drop g with
    | nil => rw [hd] at h; simp at h
    | cons x r =>
      rw [hd] at h
      have hm : w ∈ l.drop g := by
        rw [hd]
        rcases List.mem_cons.mp h with e | e
        · rw [e]; exact List.mem_cons_self
        · exact List.mem_cons_of_mem _ (ih r w e)
      exact List.mem_of_mem_drop hm
theorem goodIn_g {big : List Cond} (ws : List Cond) (gs ps : List Nat) (hp : ws = ps.filterMap (fun i => (pkG gs big)[i]?)) (h : ws.all goodWord = true) : GoodIn big ws := by
  intro w hw
  have h1 := List.all_eq_true.mp h w hw
  rw [hp] at hw
  obtain ⟨i, -, hi⟩ := List.mem_filterMap.mp hw
  exact ⟨pkG_in _ _ _ (List.mem_of_getElem? hi), good_of_word h1⟩
/-! ===== equality of words with codes compared as lists (the kernel's comparison of arrays is dear) ===== -/
def bEq : List UInt8 → List UInt8 → Bool
  | [], [] => true
  | a :: r, b :: t => Nat.beq a.toNat b.toNat && bEq r t
  | _, _ => false
theorem bEq_ok : ∀ {a b : List UInt8}, bEq a b = true → a = b := by
  intro a
  induction a with
  | nil => intro b h; cases b with
    | nil => rfl
    | cons y t => simp [bEq] at h
  | cons x r ih => intro b h; cases b with
    | nil => simp [bEq] at h
    | cons y t =>
      simp only [bEq, Bool.and_eq_true] at h
      rw [UInt8.toNat_inj.mp (Nat.eq_of_beq_eq_true h.1), ih h.2]
def cEq (a b : ByteArray) : Bool := bEq a.data.toList b.data.toList
theorem cEq_ok {a b : ByteArray} (h : cEq a b = true) : a = b := by
  have := bEq_ok h
  cases a with | mk a => cases b with | mk b => 
    congr
    exact Array.toList_inj.mp this
def wEq : Cond → Cond → Bool
  | .code y c n r, .code y' c' n' r' => decide (y = y') && cEq c c' && decide (n = n') && decide (r = r')
  | .code _ _ _ _, _ => false
  | a, b => decide (a = b)
theorem wEq_ok {a b : Cond} (h : wEq a b = true) : a = b := by
  unfold wEq at h
  split at h
  · simp only [Bool.and_eq_true, decide_eq_true_eq] at h
    rw [h.1.1.1, cEq_ok h.1.1.2, h.1.2, h.2]
  · cases h
  · exact of_decide_eq_true h
def lEq : List Cond → List Cond → Bool
  | [], [] => true
  | a :: r, b :: t => wEq a b && lEq r t
  | _, _ => false
theorem lEq_ok : ∀ {a b : List Cond}, lEq a b = true → a = b := by
  intro a
  induction a with
  | nil => intro b h; cases b with
    | nil => rfl
    | cons y t => simp [lEq] at h
  | cons x r ih => intro b h; cases b with
    | nil => simp [lEq] at h
    | cons y t =>
      simp only [lEq, Bool.and_eq_true] at h
      rw [wEq_ok h.1, ih h.2]
theorem goodIn_h {big : List Cond} (ws : List Cond) (gs ps : List Nat) (hp : lEq ws (ps.filterMap (fun i => (pkG gs big)[i]?)) = true) (h : ws.all goodWord = true) : GoodIn big ws := goodIn_g ws gs ps (lEq_ok hp) h

theorem glx_0 : ∀ w ∈ u_ws RX0 TX0 10, w ∈ lw_tbl := fun w h => (goodIn_h (big := lw_tbl) (u_ws RX0 TX0 10) [402, 1, 1, 1, 1, 1, 1, 1, 1, 1] [0, 1, 2, 3, 4, 5, 6, 7, 8, 9] (by decide +kernel) (by decide +kernel) w h).1
theorem glx_1 : ∀ w ∈ u_ws RX1 TX1 4, w ∈ lw_tbl := fun w h => (goodIn_h (big := lw_tbl) (u_ws RX1 TX1 4) [290, 1, 1, 1] [0, 1, 2, 3] (by decide +kernel) (by decide +kernel) w h).1
theorem glx_2 : ∀ w ∈ u_ws RX2 TX2 8, w ∈ lw_tbl := fun w h => (goodIn_h (big := lw_tbl) (u_ws RX2 TX2 8) [210, 1, 1, 1, 1, 1, 1, 1] [0, 1, 2, 3, 4, 5, 6, 7] (by decide +kernel) (by decide +kernel) w h).1
theorem glx_3 : ∀ w ∈ u_ws RX3 TX3 5, w ∈ lw_tbl := fun w h => (goodIn_h (big := lw_tbl) (u_ws RX3 TX3 5) [314, 1, 1, 1, 1] [0, 1, 2, 3, 4] (by decide +kernel) (by decide +kernel) w h).1
theorem glx_4 : ∀ w ∈ u_ws RX4 TX4 12, w ∈ lw_tbl := fun w h => (goodIn_h (big := lw_tbl) (u_ws RX4 TX4 12) [570, 1, 1, 1, 1, 1, 1, 1, 1, 1, 1, 1] [0, 1, 2, 3, 4, 5, 6, 7, 8, 9, 10, 11] (by decide +kernel) (by decide +kernel) w h).1
theorem glx_5 : ∀ w ∈ u_ws RX5 TX5 3, w ∈ lw_tbl := fun w h => (goodIn_h (big := lw_tbl) (u_ws RX5 TX5 3) [491, 1, 1] [0, 1, 2] (by decide +kernel) (by decide +kernel) w h).1
theorem glx_6 : ∀ w ∈ u_ws RX6 TX6 7, w ∈ lw_tbl := fun w h => (goodIn_h (big := lw_tbl) (u_ws RX6 TX6 7) [173, 1, 1, 1, 1, 1, 1] [0, 1, 2, 3, 4, 5, 6] (by decide +kernel) (by decide +kernel) w h).1
theorem glx_7 : ∀ w ∈ u_ws RX7 TX7 10, w ∈ lw_tbl := fun w h => (goodIn_h (big := lw_tbl) (u_ws RX7 TX7 10) [930, 1, 1, 1, 1, 1, 1, 1, 1, 1] [0, 1, 2, 3, 4, 5, 6, 7, 8, 9] (by decide +kernel) (by decide +kernel) w h).1
theorem glx_8 : ∀ w ∈ u_ws RX8 TX8 13, w ∈ lw_tbl := fun w h => (goodIn_h (big := lw_tbl) (u_ws RX8 TX8 13) [249, 1, 1, 1, 1, 1, 1, 1, 1, 1, 1, 1, 1] [0, 1, 2, 3, 4, 5, 6, 7, 8, 9, 10, 11, 12] (by decide +kernel) (by decide +kernel) w h).1
theorem glx_9 : ∀ w ∈ u_ws RX9 TX9 9, w ∈ lw_tbl := fun w h => (goodIn_h (big := lw_tbl) (u_ws RX9 TX9 9) [527, 1, 1, 1, 1, 1, 1, 1, 1] [0, 1, 2, 3, 4, 5, 6, 7, 8] (by decide +kernel) (by decide +kernel) w h).1
theorem glx_10 : ∀ w ∈ u_ws RX10 TX10 7, w ∈ lw_tbl := fun w h => (goodIn_h (big := lw_tbl) (u_ws RX10 TX10 7) [134, 1, 1, 1, 1, 1, 1] [0, 1, 2, 3, 4, 5, 6] (by decide +kernel) (by decide +kernel) w h).1
theorem glx_11 : ∀ w ∈ u_ws RX11 TX11 12, w ∈ lw_tbl := fun w h => (goodIn_h (big := lw_tbl) (u_ws RX11 TX11 12) [337, 1, 1, 1, 1, 1, 1, 1, 1, 1, 1, 1] [0, 1, 2, 3, 4, 5, 6, 7, 8, 9, 10, 11] (by decide +kernel) (by decide +kernel) w h).1
theorem glx_12 : ∀ w ∈ u_ws RX12 TX12 66, w ∈ lw_tbl := fun w h => (goodIn_h (big := lw_tbl) (u_ws RX12 TX12 66) [1356, 1, 1, 1, 1, 1, 1, 1, 1, 1, 1, 1, 1, 1, 1, 1, 1, 1, 1, 1, 1, 1, 1, 1, 1, 1, 1, 1, 1, 1, 1, 1, 1, 1, 1, 1, 1, 1, 1, 1, 1, 1, 1, 1, 1, 1, 1, 1, 1, 1, 1, 1, 1, 1, 1, 1, 1, 1, 1, 1, 1, 1, 1, 1, 1, 1] [0, 1, 2, 3, 4, 5, 6, 7, 8, 9, 10, 11, 12, 13, 14, 15, 16, 17, 18, 19, 20, 21, 22, 23, 24, 25, 26, 27, 28, 29, 30, 31, 32, 33, 34, 35, 36, 37, 38, 39, 40, 41, 42, 43, 44, 45, 46, 47, 48, 49, 50, 51, 52, 53, 54, 55, 56, 57, 58, 59, 60, 61, 62, 63, 64, 65] (by decide +kernel) (by decide +kernel) w h).1
theorem wsL_law_x0 : ∀ w ∈ (vx_atS RX11 106 "java/lang/IndexOutOfBoundsException" ["java/lang/RuntimeException", "java/lang/Exception"]).filter goodWord, w ∈ lw_tbl := fun w h => (goodIn_h (big := lw_tbl) ((vx_atS RX11 106 "java/lang/IndexOutOfBoundsException" ["java/lang/RuntimeException", "java/lang/Exception"]).filter goodWord) [91, 20, 0, 1074, 7, 0, 0, 0, 0, 0, 0, 0, 0, 0, 0, 0, 0, 0, 0, 0, 0, 0, 1, 1, 0, 2, 0, 1, 1, 1, 0, 0, 0, 0, 0, 0, 0, 0, 0, 0, 0, 1, 0, 0, 0] [0, 17, 24, 25, 27, 28, 18, 19, 1, 2, 20, 23, 26, 42, 7, 43, 9, 44, 11, 21, 22, 13, 39, 40, 41, 13, 30, 31, 32, 33, 33, 34, 35, 36, 36, 37, 38, 39, 29, 3, 4, 5, 6, 8, 10, 12, 16, 15, 14] (by decide +kernel) (by decide +kernel) w h).1
theorem wsL_law_x1 : ∀ w ∈ (ox_at RX11 223 "java/util/NoSuchElementException" 13 prog_26_method_4_code ["java/lang/RuntimeException", "java/lang/Exception"]).filter goodWord, w ∈ lw_tbl := fun w h => (goodIn_h (big := lw_tbl) ((ox_at RX11 223 "java/util/NoSuchElementException" 13 prog_26_method_4_code ["java/lang/RuntimeException", "java/lang/Exception"]).filter goodWord) [91, 20, 0, 1085, 1, 1, 1, 1, 0, 0, 0, 0, 0, 0, 1, 1, 0, 1, 0, 0, 1, 1, 5, 0, 0, 0, 0, 0, 0, 0, 1, 0, 0, 0, 22, 1, 0, 0, 0, 0, 0, 1, 0, 0, 0] [0, 9, 16, 18, 20, 21, 10, 11, 1, 2, 12, 15, 19, 31, 3, 32, 4, 33, 5, 13, 14, 6, 28, 29, 30, 6, 42, 43, 44, 22, 22, 23, 24, 25, 25, 26, 27, 28, 41, 34, 35, 17, 36, 37, 38, 39, 8, 7, 40] (by decide +kernel) (by decide +kernel) w h).1

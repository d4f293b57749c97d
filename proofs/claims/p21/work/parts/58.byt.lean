/-! ===== bytes of a word ===== -/
theorem bm_rng (z : Int) : -128 ≤ z.bmod 256 ∧ z.bmod 256 ≤ 127 := by
  rw [Int.bmod_def]
  split <;> omega
theorem bm_small {z : Int} (h0 : -128 ≤ z) (h1 : z ≤ 127) : z.bmod 256 = z := by
  rw [Int.bmod_def]
  split <;> omega
theorem z_i2b {x v : Int32} (e : v = x.toInt8.toInt32) : v.toInt = x.toInt.bmod 256 := by
  subst e
  rw [Int8.toInt_toInt32]
  exact Int32.toInt_toInt8 x
theorem z_narb {v : Int32} {z : Int} (h : v.toInt = z) (h0 : -128 ≤ z) (h1 : z ≤ 127) : (vp_nar .byte v).toInt = z := by
  show (v.toInt8.toInt32).toInt = z
  rw [Int8.toInt_toInt32, Int32.toInt_toInt8, h]
  exact bm_small h0 h1
/-- byte k (0: the highest) of a word -/
def sgb (v : Int) (k : Int) : Int := (v / (if k = 0 then 16777216 else if k = 1 then 65536 else if k = 2 then 256 else 1)).bmod 256
theorem sgb_0 (v : Int) : sgb v 0 = (v / 16777216).bmod 256 := rfl
theorem sgb_1 (v : Int) : sgb v 1 = (v / 65536).bmod 256 := rfl
theorem sgb_2 (v : Int) : sgb v 2 = (v / 256).bmod 256 := rfl
theorem sgb_3 (v : Int) : sgb v 3 = v.bmod 256 := by
  show (v / 1).bmod 256 = v.bmod 256
  rw [Int.ediv_one]
theorem u_toN (x : Int32) : ((x.toUInt32.toNat : Nat) : Int) = x.toInt ∨ ((x.toUInt32.toNat : Nat) : Int) = x.toInt + 4294967296 := by
  have h5 : x.toInt = (x.toUInt32.toNat : Int).bmod (2 ^ 32) := BitVec.toInt_eq_toNat_bmod _
  have h6 := x.toUInt32.toNat_lt
  rw [Int.bmod_def] at h5
  split at h5 <;> omega
theorem b_ush24 {x v : Int32} (e : v = (x.toUInt32 >>> ((24 : Int32).toUInt32 &&& Int32.toUInt32 31)).toInt32) : v.toInt.bmod 256 = (x.toInt / 16777216).bmod 256 := by
  subst e
  have h1 : ((24 : Int32).toUInt32 &&& Int32.toUInt32 31) = 24 := by decide
  rw [h1]
  have h2 : (x.toUInt32 >>> 24).toNat = x.toUInt32.toNat / 16777216 := by
    rw [UInt32.toNat_shiftRight]; simp [Nat.shiftRight_eq_div_pow]
  have h3 : x.toUInt32.toNat < 4294967296 := x.toUInt32.toNat_lt
  have h4 : (x.toUInt32 >>> 24).toInt32.toInt = ((x.toUInt32 >>> 24).toNat : Int).bmod (2 ^ 32) := BitVec.toInt_eq_toNat_bmod _
  have h5 := u_toN x
  rw [h4, h2, bm_id (by omega) (by omega), Int.bmod_def, Int.bmod_def]
  rcases h5 with h5 | h5 <;> (split <;> split <;> omega)
theorem b_ish24 {x v : Int32} (e : v = x >>> ((24 : Int32) &&& 31)) : v.toInt = x.toInt / 16777216 := by
  subst e
  have h1 : ((24 : Int32) &&& 31) = 24 := by decide
  rw [h1]
  show (x.toBitVec.sshiftRight 24).toInt = _
  rw [BitVec.toInt_sshiftRight, Int.shiftRight_eq_div_pow]
  rfl
theorem b_ush16 {x v : Int32} (e : v = (x.toUInt32 >>> ((16 : Int32).toUInt32 &&& Int32.toUInt32 31)).toInt32) : v.toInt.bmod 256 = (x.toInt / 65536).bmod 256 := by
  subst e
  have h1 : ((16 : Int32).toUInt32 &&& Int32.toUInt32 31) = 16 := by decide
  rw [h1]
  have h2 : (x.toUInt32 >>> 16).toNat = x.toUInt32.toNat / 65536 := by
    rw [UInt32.toNat_shiftRight]; simp [Nat.shiftRight_eq_div_pow]
  have h3 : x.toUInt32.toNat < 4294967296 := x.toUInt32.toNat_lt
  have h4 : (x.toUInt32 >>> 16).toInt32.toInt = ((x.toUInt32 >>> 16).toNat : Int).bmod (2 ^ 32) := BitVec.toInt_eq_toNat_bmod _
  have h5 := u_toN x
  rw [h4, h2, bm_id (by omega) (by omega), Int.bmod_def, Int.bmod_def]
  rcases h5 with h5 | h5 <;> (split <;> split <;> omega)
theorem b_ish16 {x v : Int32} (e : v = x >>> ((16 : Int32) &&& 31)) : v.toInt = x.toInt / 65536 := by
  subst e
  have h1 : ((16 : Int32) &&& 31) = 16 := by decide
  rw [h1]
  show (x.toBitVec.sshiftRight 16).toInt = _
  rw [BitVec.toInt_sshiftRight, Int.shiftRight_eq_div_pow]
  rfl
theorem b_ush8 {x v : Int32} (e : v = (x.toUInt32 >>> ((8 : Int32).toUInt32 &&& Int32.toUInt32 31)).toInt32) : v.toInt.bmod 256 = (x.toInt / 256).bmod 256 := by
  subst e
  have h1 : ((8 : Int32).toUInt32 &&& Int32.toUInt32 31) = 8 := by decide
  rw [h1]
  have h2 : (x.toUInt32 >>> 8).toNat = x.toUInt32.toNat / 256 := by
    rw [UInt32.toNat_shiftRight]; simp [Nat.shiftRight_eq_div_pow]
  have h3 : x.toUInt32.toNat < 4294967296 := x.toUInt32.toNat_lt
  have h4 : (x.toUInt32 >>> 8).toInt32.toInt = ((x.toUInt32 >>> 8).toNat : Int).bmod (2 ^ 32) := BitVec.toInt_eq_toNat_bmod _
  have h5 := u_toN x
  rw [h4, h2, bm_id (by omega) (by omega), Int.bmod_def, Int.bmod_def]
  rcases h5 with h5 | h5 <;> (split <;> split <;> omega)
theorem b_ish8 {x v : Int32} (e : v = x >>> ((8 : Int32) &&& 31)) : v.toInt = x.toInt / 256 := by
  subst e
  have h1 : ((8 : Int32) &&& 31) = 8 := by decide
  rw [h1]
  show (x.toBitVec.sshiftRight 8).toInt = _
  rw [BitVec.toInt_sshiftRight, Int.shiftRight_eq_div_pow]
  rfl
theorem sgb_rng (v k : Int) : -128 ≤ sgb v k ∧ sgb v k ≤ 127 := bm_rng _
theorem b_ishv {x v sh : Int32} {r : Int} (e : v = x >>> (sh &&& 31)) (hs : sh.toInt = 24 - 8 * r) (h0 : 0 ≤ r) (h3 : r ≤ 3) : v.toInt.bmod 256 = sgb x.toInt r := by
  rcases (show r = 0 ∨ r = 1 ∨ r = 2 ∨ r = 3 by omega) with h | h | h | h
  · subst h
    have e2 : sh = 24 := Int32.toInt_inj.mp (by rw [hs]; decide)
    subst e2
    rw [b_ish24 e, sgb_0]
  · subst h
    have e2 : sh = 16 := Int32.toInt_inj.mp (by rw [hs]; decide)
    subst e2
    rw [b_ish16 e, sgb_1]
  · subst h
    have e2 : sh = 8 := Int32.toInt_inj.mp (by rw [hs]; decide)
    subst e2
    rw [b_ish8 e, sgb_2]
  · subst h
    have e2 : sh = 0 := Int32.toInt_inj.mp (by rw [hs]; decide)
    subst e2
    rw [z_shr0 e rfl, sgb_3]
/-- a word comes behind n bytes -/
def apB (f : Nat → Int) (n : Nat) (v : Int) : Nat → Int := fun j => if j = n + 3 then sgb v 3 else if j = n + 2 then sgb v 2 else if j = n + 1 then sgb v 1 else if j = n + 0 then sgb v 0 else f j
/-- k bytes of the words s come behind n bytes -/
def fdP (s : Nat → Int) (f : Nat → Int) (n k : Nat) : Nat → Int := fun j => if n ≤ j ∧ j < n + k then sgb (s ((j - n) / 4)) (((j - n) % 4 : Nat) : Int) else f j
theorem fdP_0 (s f : Nat → Int) (n : Nat) : fdP s f n 0 = f := by
  funext j
  unfold fdP
  rw [if_neg (by omega)]
theorem fdP_y {s f : Nat → Int} {n k j i r : Nat} (h1 : n ≤ j) (h2 : j < n + k) (hi : (j - n) / 4 = i) (hr : (j - n) % 4 = r) : fdP s f n k j = sgb (s i) (r : Int) := by
  unfold fdP
  rw [if_pos ⟨h1, h2⟩, hi, hr]
theorem fdP_step (s f : Nat → Int) (n i : Nat) : apB (fdP s f n (4 * i)) (n + 4 * i) (s i) = fdP s f n (4 * (i + 1)) := by
  funext j
  unfold apB
  by_cases e3 : j = n + 4 * i + 3
  · rw [if_pos e3]; exact (fdP_y (i := i) (r := 3) (by omega) (by omega) (by omega) (by omega)).symm
  rw [if_neg e3]
  by_cases e2 : j = n + 4 * i + 2
  · rw [if_pos e2]; exact (fdP_y (i := i) (r := 2) (by omega) (by omega) (by omega) (by omega)).symm
  rw [if_neg e2]
  by_cases e1 : j = n + 4 * i + 1
  · rw [if_pos e1]; exact (fdP_y (i := i) (r := 1) (by omega) (by omega) (by omega) (by omega)).symm
  rw [if_neg e1]
  by_cases e0 : j = n + 4 * i + 0
  · rw [if_pos e0]; exact (fdP_y (i := i) (r := 0) (by omega) (by omega) (by omega) (by omega)).symm
  rw [if_neg e0]
  unfold fdP
  by_cases h : n ≤ j ∧ j < n + 4 * i
  · rw [if_pos h, if_pos (by omega)]
  · rw [if_neg h, if_neg (by omega)]
theorem fdP_nx {s f g : Nat → Int} {n m i : Nat} {v : Int} (hg : g = fdP s f n (4 * i)) (hm : m = n + 4 * i) (hv : v = s i) : apB g m v = fdP s f n (4 * (i + 1)) := by
  subst hg
  subst hm
  subst hv
  exact fdP_step s f n i
theorem fdP_put {s f : Nat → Int} {n k : Nat} {v : Int} (hv : v = sgb (s (k / 4)) ((k % 4 : Nat) : Int)) : ∀ j, (if j = n + k then v else fdP s f n k j) = fdP s f n (k + 1) j := fun j => by
  by_cases e : j = n + k
  · rw [if_pos e, hv]; exact (fdP_y (i := k / 4) (r := k % 4) (by omega) (by omega) (by rw [e, Nat.add_sub_cancel_left]) (by rw [e, Nat.add_sub_cancel_left])).symm
  · rw [if_neg e]
    unfold fdP
    by_cases h : n ≤ j ∧ j < n + k
    · rw [if_pos h, if_pos (by omega)]
    · rw [if_neg h, if_neg (by omega)]
theorem selF_ex (a1 a2 a3 a4 a5 : Int) : ∃ f : Nat → Int, f = fun i => if i = 0 then a1 else if i = 1 then a2 else if i = 2 then a3 else if i = 3 then a4 else a5 := ⟨_, rfl⟩
noncomputable def selF (a1 a2 a3 a4 a5 : Int) : Nat → Int := Classical.choose (selF_ex a1 a2 a3 a4 a5)
theorem selF_eq (a1 a2 a3 a4 a5 : Int) (i : Nat) : selF a1 a2 a3 a4 a5 i = if i = 0 then a1 else if i = 1 then a2 else if i = 2 then a3 else if i = 3 then a4 else a5 := congrFun (Classical.choose_spec (selF_ex a1 a2 a3 a4 a5)) i
theorem sel_0 (a1 a2 a3 a4 a5 : Int) : selF a1 a2 a3 a4 a5 0 = a1 := by rw [selF_eq]; rfl
theorem sel_1 (a1 a2 a3 a4 a5 : Int) : selF a1 a2 a3 a4 a5 1 = a2 := by rw [selF_eq]; rfl
theorem sel_2 (a1 a2 a3 a4 a5 : Int) : selF a1 a2 a3 a4 a5 2 = a3 := by rw [selF_eq]; rfl
theorem sel_3 (a1 a2 a3 a4 a5 : Int) : selF a1 a2 a3 a4 a5 3 = a4 := by rw [selF_eq]; rfl
theorem sel_4 (a1 a2 a3 a4 a5 : Int) : selF a1 a2 a3 a4 a5 4 = a5 := by rw [selF_eq]; rfl
theorem fdP_congr {s f f' : Nat → Int} {n k j : Nat} (h : ∀ j, j < n → f j = f' j) (hj : j < n + k) : fdP s f n k j = fdP s f' n k j := by
  unfold fdP
  by_cases e : n ≤ j ∧ j < n + k
  · rw [if_pos e, if_pos e]
  · rw [if_neg e, if_neg e]; exact h j (by omega)
theorem zA_frc {M : List Nat} {S S' : PS} {x k0 g k : Nat} (hF : Fr M S S') (ha : At S x k0) (hq : ∃ q, pR S g x = some q ∧ At S q k) (h1 : M.contains g = false) (h2 : M.contains (10000 + k) = false) : zA S' x g = zA S x g := zA_of_mA (mA_frc hF ha hq h1 h2)

set_option maxHeartbeats 4000000 in
set_option maxRecDepth 100000 in
theorem k_X10_append2 (l : Launch) (G : va_G) (cy : Nat → ClassId) (κ : Nat → Nat) (S : PS) (sz : Nat) (x : Nat) (a1 : Int32) (a1_z : Int) (hG : GX S) (ha_x : At S x 10) (hz_a1 : a1.toInt = a1_z) : Cv l yX10_append wsX10_append ({ frames := 1, cells := 0, slots := 0, locals := 48 }) G cy κ S sz [.ref x, .int (a1)] (fun (S9 : PS) => Ok eAP S S9 ∧ (((pI S 1000 x).toInt ≤ 396 ∧ (pI S9 1000 x).toInt = (pI S 1000 x).toInt + 4 ∧ zA S9 x 1003 = apB (zA S x 1003) (pI S 1000 x).toInt.toNat a1_z) ∨ (396 < (pI S 1000 x).toInt ∧ (pI S9 1000 x).toInt = (pI S 1000 x).toInt))) := by
  refine ent_m (cc := cX10_append) (maxL := 2) (ret := none) (by decide) rfl (Nat.le_of_ble_eq_true rfl) ?_
  intro p e s m below meth c ls X hr hlocks hin hw hl hsz
  subst hsz
  have X : Cx p c cX10_append 2 s [.ref x, .int (a1)].toArray wsX10_append RX10 m G cy κ (AS S s.heap.size) := X
  have hl : lv_has ls 2 [(0, .ref x), (1, .int (a1))] := hl
  have rg_a1 : (-2147483648) ≤ a1_z ∧ a1_z ≤ 2147483647 := by rw [← hz_a1]; exact ⟨z_lo _, z_hi _⟩
  have hO : Ok eAP S S := Ok.rf hG
  obtain ⟨v_1, ev_1⟩ : ∃ v, pI S 1000 x = v := ⟨_, rfl⟩
  have rg_2 := gI_10_1000 hO.1 ha_x; rw [ev_1] at rg_2
  have pz_3 : (pI S 1000 x).toInt = v_1.toInt := by rw [ev_1]
  have pz_4 : (pI S 1000 x).toInt = v_1.toInt := (congrArg Int32.toInt ev_1).trans rfl
  refine lv_aload_n X.1 X.2.1 dX10_append_0 rfl (lv_at hl 0 rfl) ?_
  refine r_getI (g := 1000) (x := v_1) X hw ha_x rfl 0 ev_1 (by decide) rfl inn_X10_append_10 (by decide) (X.2.2.2.1 (.fieldLink RX10 19 "SilkMill$Tape" "size" "I") (by decide +kernel)) rfl (gv_1000 _ _) dX10_append_1 ?_
  refine lv_iconst (v := 4) X.1 X.2.1 dX10_append_4 (by decide) ?_
  refine lv_iadd X.1 X.2.1 dX10_append_5 ?_
  refine lv_topi (fun v_5 ev_5 => ?_)
  have z_6 : v_5.toInt = v_1.toInt + 4 := z_add ev_5 rfl ti_4 (by omega) (by omega)
  refine lv_sipush (v := 400) X.1 X.2.1 dX10_append_6 (by decide) ?_
  refine lv_icmp_gt (tgt := 81) X.1 X.2.1 dX10_append_9 (by decide) (fun c_7 => ?_) (fun c_7 => ?_)
  · have z_b_8 := trivial
    have k_9 : v_5.toInt > 400 := z_lt ti_400 rfl c_7
    have pz_10 : (pI S 1000 x).toInt = v_1.toInt := (congrArg Int32.toInt ev_1).trans rfl
    exact ret_v X hw hr hlocks (Nat.le_of_ble_eq_true rfl) (Nat.le_of_ble_eq_true rfl) ⟨hO, Or.inr ⟨by omega, by omega⟩⟩ dX10_append_81
  · have z_b_11 := trivial
    have k_12 : v_5.toInt ≤ 400 := z_nlt ti_400 rfl c_7
    refine lv_aload_n X.1 X.2.1 dX10_append_12 rfl (lv_at hl 0 rfl) ?_
    obtain ⟨q_13, h_14, h_15, h_16⟩ := gQ_10_1003 hO.1 ha_x
    refine r_getR (g := 1003) X hw ha_x rfl 3 h_14 (by decide) rfl inn_X10_append_10 (by decide) (X.2.2.2.1 (.fieldLink RX10 15 "SilkMill$Tape" "bytes" "[B") (by decide +kernel)) rfl (gv_1003 _ _) dX10_append_13 ?_
    refine lv_aload_n X.1 X.2.1 dX10_append_16 rfl (lv_at hl 0 rfl) ?_
    refine r_getI (g := 1000) (x := v_1) X hw ha_x rfl 0 ev_1 (by decide) rfl inn_X10_append_10 (by decide) (X.2.2.2.1 (.fieldLink RX10 19 "SilkMill$Tape" "size" "I") (by decide +kernel)) rfl (gv_1000 _ _) dX10_append_17 ?_
    refine lv_iload_n X.1 X.2.1 dX10_append_20 rfl (lv_at hl 1 rfl) ?_
    refine lv_bipush (v := 24) X.1 X.2.1 dX10_append_21 (by decide) ?_
    refine lv_iushr X.1 X.2.1 dX10_append_23 rfl ?_
    refine lv_topi (fun v_17 ev_17 => ?_)
    have rg_18 := And.intro (z_lo v_17) (z_hi v_17)
    refine lv_i2b X.1 X.2.1 dX10_append_24 rfl ?_
    refine lv_topi (fun v_19 ev_19 => ?_)
    have rg_20 := And.intro (z_lo v_19) (z_hi v_19)
    refine r_bast X hw h_15 rfl (by rw [h_16]; exact z_ix rfl (by omega) (by omega)) dX10_append_25 (fun H locs hw => ?_)
    obtain ⟨S_21, eS_21⟩ : ∃ T, T = sA S q_13 (upd (pA S q_13) (Int32.toNatClampNeg (v_1)) (vp_nar .byte (v_19))) := ⟨_, rfl⟩
    rw [← eS_21] at hw
    have hO_22 : Ok eAP S S_21 := hO.sA eS_21 h_15 (by decide +kernel) (uA_13 hO.1 h_15)
    have t_23 : pR S_21 1003 x = some q_13 := tR_sA eS_21 h_14
    have t_24 : pR S 1003 x = some q_13 := by have h := t_23; rw [eS_21, pR_sA] at h; exact h
    have bv_25 : v_19.toInt = sgb a1_z 0 := by rw [z_i2b ev_19, b_ush24 ev_17, hz_a1, sgb_0]
    have bn_26 : (vp_nar .byte (v_19)).toInt = sgb a1_z 0 := z_narb bv_25 (sgb_rng _ _).1 (sgb_rng _ _).2
    have bz_27 : ∀ j, zA S_21 x 1003 j = if j = (pI S 1000 x).toInt.toNat + 0 then sgb a1_z 0 else zA S x 1003 j := by have h := zA_sAs eS_21 t_24 bn_26; rw [z_nc rfl (by omega), show (v_1.toInt).toNat = (pI S 1000 x).toInt.toNat + 0 by omega] at h; exact h
    refine lv_aload_n X.1 X.2.1 dX10_append_26 rfl (lv_at hl 0 rfl) ?_
    have t_28 : At S_21 x 10 := tAt_sA eS_21 ha_x
    refine r_getR (g := 1003) X hw t_28 rfl 3 t_23 (by decide) rfl inn_X10_append_10 (by decide) (X.2.2.2.1 (.fieldLink RX10 15 "SilkMill$Tape" "bytes" "[B") (by decide +kernel)) rfl (gv_1003 _ _) dX10_append_27 ?_
    refine lv_aload_n X.1 X.2.1 dX10_append_30 rfl (lv_at hl 0 rfl) ?_
    have t_29 : pI S_21 1000 x = v_1 := tI_sA eS_21 ev_1
    refine r_getI (g := 1000) (x := v_1) X hw t_28 rfl 0 t_29 (by decide) rfl inn_X10_append_10 (by decide) (X.2.2.2.1 (.fieldLink RX10 19 "SilkMill$Tape" "size" "I") (by decide +kernel)) rfl (gv_1000 _ _) dX10_append_31 ?_
    refine lv_iconst (v := 1) X.1 X.2.1 dX10_append_34 (by decide) ?_
    refine lv_iadd X.1 X.2.1 dX10_append_35 ?_
    refine lv_topi (fun v_30 ev_30 => ?_)
    have z_31 : v_30.toInt = v_1.toInt + 1 := z_add ev_30 rfl ti_1 (by omega) (by omega)
    refine lv_iload_n X.1 X.2.1 dX10_append_36 rfl (lv_at hl 1 rfl) ?_
    refine lv_bipush (v := 16) X.1 X.2.1 dX10_append_37 (by decide) ?_
    refine lv_iushr X.1 X.2.1 dX10_append_39 rfl ?_
    refine lv_topi (fun v_32 ev_32 => ?_)
    have z_33 : 0 ≤ v_32.toInt ∧ v_32.toInt ≤ 65535 := z_ushr16 ev_32
    refine lv_i2b X.1 X.2.1 dX10_append_40 rfl ?_
    refine lv_topi (fun v_34 ev_34 => ?_)
    have rg_35 := And.intro (z_lo v_34) (z_hi v_34)
    have t_36 : At S_21 q_13 13 := tAt_sA eS_21 h_15
    have t_37 : pN S_21 q_13 = 400 := tN_sA eS_21 h_16
    clear h_16
    refine r_bast X hw t_36 rfl (by rw [t_37]; exact z_ix rfl (by omega) (by omega)) dX10_append_41 (fun H locs hw => ?_)
    obtain ⟨S_38, eS_38⟩ : ∃ T, T = sA S_21 q_13 (upd (pA S_21 q_13) (Int32.toNatClampNeg (v_30)) (vp_nar .byte (v_34))) := ⟨_, rfl⟩
    rw [← eS_38] at hw
    have hO_39 : Ok eAP S S_38 := hO_22.sA eS_38 t_36 (by decide +kernel) (uA_13 hO_22.1 t_36)
    have t_40 : pR S_38 1003 x = some q_13 := tR_sA eS_38 t_23
    have t_41 : pR S_21 1003 x = some q_13 := by have h := t_40; rw [eS_38, pR_sA] at h; exact h
    have bv_42 : v_34.toInt = sgb a1_z 1 := by rw [z_i2b ev_34, b_ush16 ev_32, hz_a1, sgb_1]
    have bn_43 : (vp_nar .byte (v_34)).toInt = sgb a1_z 1 := z_narb bv_42 (sgb_rng _ _).1 (sgb_rng _ _).2
    have bz_44 : ∀ j, zA S_38 x 1003 j = if j = (pI S 1000 x).toInt.toNat + 1 then sgb a1_z 1 else zA S_21 x 1003 j := by have h := zA_sAs eS_38 t_41 bn_43; rw [z_nc rfl (by omega), show (v_30.toInt).toNat = (pI S 1000 x).toInt.toNat + 1 by omega] at h; exact h
    refine lv_aload_n X.1 X.2.1 dX10_append_42 rfl (lv_at hl 0 rfl) ?_
    have t_45 : At S_38 x 10 := tAt_sA eS_38 t_28
    refine r_getR (g := 1003) X hw t_45 rfl 3 t_40 (by decide) rfl inn_X10_append_10 (by decide) (X.2.2.2.1 (.fieldLink RX10 15 "SilkMill$Tape" "bytes" "[B") (by decide +kernel)) rfl (gv_1003 _ _) dX10_append_43 ?_
    refine lv_aload_n X.1 X.2.1 dX10_append_46 rfl (lv_at hl 0 rfl) ?_
    have t_46 : pI S_38 1000 x = v_1 := tI_sA eS_38 t_29
    refine r_getI (g := 1000) (x := v_1) X hw t_45 rfl 0 t_46 (by decide) rfl inn_X10_append_10 (by decide) (X.2.2.2.1 (.fieldLink RX10 19 "SilkMill$Tape" "size" "I") (by decide +kernel)) rfl (gv_1000 _ _) dX10_append_47 ?_
    refine lv_iconst (v := 2) X.1 X.2.1 dX10_append_50 (by decide) ?_
    refine lv_iadd X.1 X.2.1 dX10_append_51 ?_
    refine lv_topi (fun v_47 ev_47 => ?_)
    have z_48 : v_47.toInt = v_1.toInt + 2 := z_add ev_47 rfl ti_2 (by omega) (by omega)
    refine lv_iload_n X.1 X.2.1 dX10_append_52 rfl (lv_at hl 1 rfl) ?_
    refine lv_bipush (v := 8) X.1 X.2.1 dX10_append_53 (by decide) ?_
    refine lv_iushr X.1 X.2.1 dX10_append_55 rfl ?_
    refine lv_topi (fun v_49 ev_49 => ?_)
    have rg_50 := And.intro (z_lo v_49) (z_hi v_49)
    refine lv_i2b X.1 X.2.1 dX10_append_56 rfl ?_
    refine lv_topi (fun v_51 ev_51 => ?_)
    have rg_52 := And.intro (z_lo v_51) (z_hi v_51)
    have t_53 : At S_38 q_13 13 := tAt_sA eS_38 t_36
    have t_54 : pN S_38 q_13 = 400 := tN_sA eS_38 t_37
    clear t_37
    refine r_bast X hw t_53 rfl (by rw [t_54]; exact z_ix rfl (by omega) (by omega)) dX10_append_57 (fun H locs hw => ?_)
    obtain ⟨S_55, eS_55⟩ : ∃ T, T = sA S_38 q_13 (upd (pA S_38 q_13) (Int32.toNatClampNeg (v_47)) (vp_nar .byte (v_51))) := ⟨_, rfl⟩
    rw [← eS_55] at hw
    have hO_56 : Ok eAP S S_55 := hO_39.sA eS_55 t_53 (by decide +kernel) (uA_13 hO_39.1 t_53)
    have t_57 : pR S_55 1003 x = some q_13 := tR_sA eS_55 t_40
    have t_58 : pR S_38 1003 x = some q_13 := by have h := t_57; rw [eS_55, pR_sA] at h; exact h
    have bv_59 : v_51.toInt = sgb a1_z 2 := by rw [z_i2b ev_51, b_ush8 ev_49, hz_a1, sgb_2]
    have bn_60 : (vp_nar .byte (v_51)).toInt = sgb a1_z 2 := z_narb bv_59 (sgb_rng _ _).1 (sgb_rng _ _).2
    have bz_61 : ∀ j, zA S_55 x 1003 j = if j = (pI S 1000 x).toInt.toNat + 2 then sgb a1_z 2 else zA S_38 x 1003 j := by have h := zA_sAs eS_55 t_58 bn_60; rw [z_nc rfl (by omega), show (v_47.toInt).toNat = (pI S 1000 x).toInt.toNat + 2 by omega] at h; exact h
    refine lv_aload_n X.1 X.2.1 dX10_append_58 rfl (lv_at hl 0 rfl) ?_
    have t_62 : At S_55 x 10 := tAt_sA eS_55 t_45
    refine r_getR (g := 1003) X hw t_62 rfl 3 t_57 (by decide) rfl inn_X10_append_10 (by decide) (X.2.2.2.1 (.fieldLink RX10 15 "SilkMill$Tape" "bytes" "[B") (by decide +kernel)) rfl (gv_1003 _ _) dX10_append_59 ?_
    refine lv_aload_n X.1 X.2.1 dX10_append_62 rfl (lv_at hl 0 rfl) ?_
    have t_63 : pI S_55 1000 x = v_1 := tI_sA eS_55 t_46
    refine r_getI (g := 1000) (x := v_1) X hw t_62 rfl 0 t_63 (by decide) rfl inn_X10_append_10 (by decide) (X.2.2.2.1 (.fieldLink RX10 19 "SilkMill$Tape" "size" "I") (by decide +kernel)) rfl (gv_1000 _ _) dX10_append_63 ?_
    refine lv_iconst (v := 3) X.1 X.2.1 dX10_append_66 (by decide) ?_
    refine lv_iadd X.1 X.2.1 dX10_append_67 ?_
    refine lv_topi (fun v_64 ev_64 => ?_)
    have z_65 : v_64.toInt = v_1.toInt + 3 := z_add ev_64 rfl ti_3 (by omega) (by omega)
    refine lv_iload_n X.1 X.2.1 dX10_append_68 rfl (lv_at hl 1 rfl) ?_
    refine lv_i2b X.1 X.2.1 dX10_append_69 rfl ?_
    refine lv_topi (fun v_66 ev_66 => ?_)
    have rg_67 := And.intro (z_lo v_66) (z_hi v_66)
    have t_68 : At S_55 q_13 13 := tAt_sA eS_55 t_53
    have t_69 : pN S_55 q_13 = 400 := tN_sA eS_55 t_54
    clear t_54
    refine r_bast X hw t_68 rfl (by rw [t_69]; exact z_ix rfl (by omega) (by omega)) dX10_append_70 (fun H locs hw => ?_)
    obtain ⟨S_70, eS_70⟩ : ∃ T, T = sA S_55 q_13 (upd (pA S_55 q_13) (Int32.toNatClampNeg (v_64)) (vp_nar .byte (v_66))) := ⟨_, rfl⟩
    rw [← eS_70] at hw
    have hO_71 : Ok eAP S S_70 := hO_56.sA eS_70 t_68 (by decide +kernel) (uA_13 hO_56.1 t_68)
    have t_72 : pR S_70 1003 x = some q_13 := tR_sA eS_70 t_57
    have t_73 : pR S_55 1003 x = some q_13 := by have h := t_72; rw [eS_70, pR_sA] at h; exact h
    have bv_74 : v_66.toInt = sgb a1_z 3 := by rw [z_i2b ev_66, hz_a1, sgb_3]
    have bn_75 : (vp_nar .byte (v_66)).toInt = sgb a1_z 3 := z_narb bv_74 (sgb_rng _ _).1 (sgb_rng _ _).2
    have bz_76 : ∀ j, zA S_70 x 1003 j = if j = (pI S 1000 x).toInt.toNat + 3 then sgb a1_z 3 else zA S_55 x 1003 j := by have h := zA_sAs eS_70 t_73 bn_75; rw [z_nc rfl (by omega), show (v_64.toInt).toNat = (pI S 1000 x).toInt.toNat + 3 by omega] at h; exact h
    refine lv_aload_n X.1 X.2.1 dX10_append_71 rfl (lv_at hl 0 rfl) ?_
    refine lv_dup X.1 X.2.1 dX10_append_72 rfl ?_
    have t_77 : At S_70 x 10 := tAt_sA eS_70 t_62
    have t_78 : pI S_70 1000 x = v_1 := tI_sA eS_70 t_63
    refine r_getI (g := 1000) (x := v_1) X hw t_77 rfl 0 t_78 (by decide) rfl inn_X10_append_10 (by decide) (X.2.2.2.1 (.fieldLink RX10 19 "SilkMill$Tape" "size" "I") (by decide +kernel)) rfl (gv_1000 _ _) dX10_append_73 ?_
    refine lv_iconst (v := 4) X.1 X.2.1 dX10_append_76 (by decide) ?_
    refine lv_iadd X.1 X.2.1 dX10_append_77 ?_
    refine lv_topi (fun v_79 ev_79 => ?_)
    have z_80 : v_79.toInt = v_1.toInt + 4 := z_add ev_79 rfl ti_4 (by omega) (by omega)
    refine r_putI (v := v_79) X hw t_77 rfl 0 1000 tyX10 (by decide) rfl inn_X10_append_10 tyX10_ok nmX10 (by decide) (X.2.2.2.1 (.fieldLink RX10 19 "SilkMill$Tape" "size" "I") (by decide +kernel)) rfl (Or.inl rfl) rfl rfl (Nat.le_of_ble_eq_true rfl) (st_1000 _ _) dX10_append_78 (fun H locs hw => ?_)
    obtain ⟨S_81, eS_81⟩ : ∃ T, T = sI S_70 1000 x (v_79) := ⟨_, rfl⟩
    rw [← eS_81] at hw
    have hO_82 : Ok eAP S S_81 := hO_71.sI eS_81 (by decide +kernel) (uI_10_1000 hO_71.1 t_77 (by omega) (by omega))
    have h_83 : pI S_81 1000 x = v_79 := tI_sIs eS_81
    have pz_84 : (pI S_81 1000 x).toInt = v_79.toInt := (congrArg Int32.toInt h_83).trans rfl
    exact ret_v X hw hr hlocks (Nat.le_of_ble_eq_true rfl) (Nat.le_of_ble_eq_true rfl) ⟨hO_82, Or.inl ⟨by omega, by omega, by funext j; rw [zA_sI eS_81, bz_76 j, bz_61 j, bz_44 j, bz_27 j]; rfl⟩⟩ dX10_append_81
set_option maxHeartbeats 4000000 in
set_option maxRecDepth 100000 in
theorem k_X11_feed2 (l : Launch) (G : va_G) (cy : Nat → ClassId) (κ : Nat → Nat) (S : PS) (sz : Nat) (x : Nat) (a1 : Int32) (a1_z : Int) (a2 : Int32) (a2_z : Int) (a3 : Int32) (a3_z : Int) (a4 : Int32) (a4_z : Int) (a5 : Int32) (a5_z : Int) (hG : GX S) (ha_x : At S x 11) (hz_a1 : a1.toInt = a1_z) (hz_a2 : a2.toInt = a2_z) (hz_a3 : a3.toInt = a3_z) (hz_a4 : a4.toInt = a4_z) (hz_a5 : a5.toInt = a5_z) : Ci l yX11_feed wsX11_feed ({ frames := 2, cells := 0, slots := 0, locals := 96 }) G cy κ S sz [.ref x, .int (a1), .int (a2), .int (a3), .int (a4), .int (a5)] (fun (r : Int32) (S9 : PS) => Ok eAP S S9 ∧ (-2147483648 ≤ r.toInt ∧ r.toInt ≤ 2147483647 ∧ (∀ q0, pR S 1105 x = some q0 → (((pI S 1000 q0).toInt ≤ 380 ∧ r.toInt = (pI S 1000 q0).toInt + 20 ∧ (pI S9 1000 q0).toInt = (pI S 1000 q0).toInt + 20) ∨ (380 < (pI S 1000 q0).toInt ∧ r.toInt = -1 ∧ (pI S9 1000 q0).toInt = (pI S 1000 q0).toInt))) ∧ (∀ q0, pR S 1105 x = some q0 → (((pI S 1000 q0).toInt ≤ 380 → zA S9 q0 1003 = fdP (selF a1_z a2_z a3_z a4_z a5_z) (zA S q0 1003) (pI S 1000 q0).toInt.toNat (4 * 5)) ∧ (380 < (pI S 1000 q0).toInt → zA S9 q0 1003 = zA S q0 1003))))) := by
  refine ent_m (cc := cX11_feed) (maxL := 6) (ret := (some .int)) (by decide) rfl (Nat.le_of_ble_eq_true rfl) ?_
  intro p e s m below meth c ls X hr hlocks hin hw hl hsz
  subst hsz
  have X : Cx p c cX11_feed 6 s [.ref x, .int (a1), .int (a2), .int (a3), .int (a4), .int (a5)].toArray wsX11_feed RX11 m G cy κ (AS S s.heap.size) := X
  have hl : lv_has ls 6 [(0, .ref x), (1, .int (a1)), (2, .int (a2)), (3, .int (a3)), (4, .int (a4)), (5, .int (a5))] := hl
  have rg_a1 : (-2147483648) ≤ a1_z ∧ a1_z ≤ 2147483647 := by rw [← hz_a1]; exact ⟨z_lo _, z_hi _⟩
  have rg_a2 : (-2147483648) ≤ a2_z ∧ a2_z ≤ 2147483647 := by rw [← hz_a2]; exact ⟨z_lo _, z_hi _⟩
  have rg_a3 : (-2147483648) ≤ a3_z ∧ a3_z ≤ 2147483647 := by rw [← hz_a3]; exact ⟨z_lo _, z_hi _⟩
  have rg_a4 : (-2147483648) ≤ a4_z ∧ a4_z ≤ 2147483647 := by rw [← hz_a4]; exact ⟨z_lo _, z_hi _⟩
  have rg_a5 : (-2147483648) ≤ a5_z ∧ a5_z ≤ 2147483647 := by rw [← hz_a5]; exact ⟨z_lo _, z_hi _⟩
  have hO : Ok eAP S S := Ok.rf hG
  obtain ⟨q_1, h_2, h_3⟩ := gQ_11_1105 hO.1 ha_x
  obtain ⟨v_5, ev_5⟩ : ∃ v, pI S 1000 q_1 = v := ⟨_, rfl⟩
  have rg_6 := gI_10_1000 hO.1 h_3; rw [ev_5] at rg_6
  have pz_7 : (pI S 1000 q_1).toInt = v_5.toInt := by rw [ev_5]
  have pz_8 : (pI S 1000 q_1).toInt = v_5.toInt := (congrArg Int32.toInt ev_5).trans rfl
  refine lv_aload_n X.1 X.2.1 dX11_feed_0 rfl (lv_at hl 0 rfl) ?_
  refine r_getR (g := 1105) X hw ha_x rfl 5 h_2 (by decide) rfl inn_X11_feed_11 (by decide) (X.2.2.2.1 (.fieldLink RX11 28 "SilkMill" "tape" "LSilkMill$Tape;") (by decide +kernel)) rfl (gv_1105 _ _) dX11_feed_1 ?_
  refine r_getI (g := 1000) (x := v_5) X hw h_3 rfl 0 ev_5 (by decide) rfl inn_X11_feed_10 (by decide) (X.2.2.2.1 (.fieldLink RX11 145 "SilkMill$Tape" "size" "I") (by decide +kernel)) rfl (gv_1000 _ _) dX11_feed_4 ?_
  refine lv_bipush (v := 20) X.1 X.2.1 dX11_feed_7 (by decide) ?_
  refine lv_iadd X.1 X.2.1 dX11_feed_9 ?_
  refine lv_topi (fun v_9 ev_9 => ?_)
  have z_10 : v_9.toInt = v_5.toInt + 20 := z_add ev_9 rfl ti_20 (by omega) (by omega)
  refine lv_sipush (v := 400) X.1 X.2.1 dX11_feed_10 (by decide) ?_
  refine lv_icmp_le (tgt := 18) X.1 X.2.1 dX11_feed_13 (by decide) (fun c_11 => ?_) (fun c_11 => ?_)
  · have z_b_12 := trivial
    have k_13 : v_9.toInt ≤ 400 := z_le rfl ti_400 c_11
    refine lv_aload_n X.1 X.2.1 dX11_feed_18 rfl (lv_at hl 0 rfl) ?_
    refine r_getR (g := 1105) X hw ha_x rfl 5 h_2 (by decide) rfl inn_X11_feed_11 (by decide) (X.2.2.2.1 (.fieldLink RX11 28 "SilkMill" "tape" "LSilkMill$Tape;") (by decide +kernel)) rfl (gv_1105 _ _) dX11_feed_19 ?_
    refine lv_iload_n X.1 X.2.1 dX11_feed_22 rfl (lv_at hl 1 rfl) ?_
    refine k_v (rm := { frames := 1, cells := 0, slots := 0, locals := 48 }) (av := [.ref q_1, .int (a1)]) X hw (va_runV (As := [.int (a1)]) (rest := []) (cfix X) (k_X10_append2 l G cy κ S _ q_1 (a1) (a1_z) hO.1 h_3 hz_a1) (cwV 1 X.2.2.2.1 gX11_feed_X10_append rfl rfl rfl (by decide +kernel) ⟨Nat.le_of_ble_eq_true rfl, Nat.le_of_ble_eq_true rfl⟩) (pre_V X hw _ h_3 rfl (by decide) rfl) rfl rfl hl.1 rfl (lv_room (Nat.le_of_ble_eq_true rfl)) dX11_feed_23 ⟨Nat.le_of_ble_eq_true rfl, Nat.le_of_ble_eq_true rfl⟩) 0 0 (Nat.le_of_ble_eq_true rfl) (Nat.le_of_ble_eq_true rfl) (fun S_15 H locs hp hw hfr hnw => ?_)
    obtain ⟨hk_16, hp⟩ := hp
    have hO_17 : Ok eAP S S_15 := hO.call hk_16 (by decide +kernel)
    have ap_18 : (pI S_15 1000 q_1).toInt = (pI S 1000 q_1).toInt + 4 ∧ zA S_15 q_1 1003 = apB (zA S q_1 1003) (pI S 1000 q_1).toInt.toNat a1_z := by rcases hp with ⟨h1, h2, h3⟩ | ⟨h1, h2⟩; exact ⟨h2, h3⟩; exfalso; omega
    have ap_20 := ap_18.1
    have fd_19 : zA S_15 q_1 1003 = fdP (selF a1_z a2_z a3_z a4_z a5_z) (zA S q_1 1003) (pI S 1000 q_1).toInt.toNat (4 * 1) := by rw [ap_18.2]; exact fdP_nx (i := 0) (s := (selF a1_z a2_z a3_z a4_z a5_z)) (fdP_0 (selF a1_z a2_z a3_z a4_z a5_z) (zA S q_1 1003) (pI S 1000 q_1).toInt.toNat).symm (by omega) (sel_0 _ _ _ _ _).symm
    refine lv_aload_n X.1 X.2.1 dX11_feed_26 rfl (lv_at hl 0 rfl) ?_
    have t_21 : At S_15 x 11 := hk_16.fr.at ha_x
    have t_22 : pR S_15 1105 x = some q_1 := hk_16.fr.R' (by decide +kernel) ha_x h_2
    refine r_getR (g := 1105) X hw t_21 rfl 5 t_22 (by decide) rfl inn_X11_feed_11 (by decide) (X.2.2.2.1 (.fieldLink RX11 28 "SilkMill" "tape" "LSilkMill$Tape;") (by decide +kernel)) rfl (gv_1105 _ _) dX11_feed_27 ?_
    refine lv_iload_n X.1 X.2.1 dX11_feed_30 rfl (lv_at hl 2 rfl) ?_
    have t_23 : At S_15 q_1 10 := hk_16.fr.at h_3
    refine k_v (rm := { frames := 1, cells := 0, slots := 0, locals := 48 }) (av := [.ref q_1, .int (a2)]) X hw (va_runV (As := [.int (a2)]) (rest := []) (cfix X) (k_X10_append2 l G cy κ S_15 _ q_1 (a2) (a2_z) hO_17.1 t_23 hz_a2) (cwV 1 X.2.2.2.1 gX11_feed_X10_append rfl rfl rfl (by decide +kernel) ⟨Nat.le_of_ble_eq_true rfl, Nat.le_of_ble_eq_true rfl⟩) (pre_V X hw _ t_23 rfl (by decide) rfl) rfl rfl hl.1 rfl (lv_room (Nat.le_of_ble_eq_true rfl)) dX11_feed_31 ⟨Nat.le_of_ble_eq_true rfl, Nat.le_of_ble_eq_true rfl⟩) 0 0 (Nat.le_of_ble_eq_true rfl) (Nat.le_of_ble_eq_true rfl) (fun S_25 H locs hp hw hfr hnw => ?_)
    obtain ⟨hk_26, hp⟩ := hp
    have hO_27 : Ok eAP S S_25 := hO_17.call hk_26 (by decide +kernel)
    have ap_28 : (pI S_25 1000 q_1).toInt = (pI S_15 1000 q_1).toInt + 4 ∧ zA S_25 q_1 1003 = apB (zA S_15 q_1 1003) (pI S_15 1000 q_1).toInt.toNat a2_z := by rcases hp with ⟨h1, h2, h3⟩ | ⟨h1, h2⟩; exact ⟨h2, h3⟩; exfalso; omega
    have ap_30 := ap_28.1
    have fd_29 : zA S_25 q_1 1003 = fdP (selF a1_z a2_z a3_z a4_z a5_z) (zA S q_1 1003) (pI S 1000 q_1).toInt.toNat (4 * 2) := by rw [ap_28.2]; exact fdP_nx (i := 1) (s := (selF a1_z a2_z a3_z a4_z a5_z)) fd_19 (by omega) (sel_1 _ _ _ _ _).symm
    refine lv_aload_n X.1 X.2.1 dX11_feed_34 rfl (lv_at hl 0 rfl) ?_
    have t_31 : At S_25 x 11 := hk_26.fr.at t_21
    have t_32 : pR S_25 1105 x = some q_1 := hk_26.fr.R' (by decide +kernel) t_21 t_22
    refine r_getR (g := 1105) X hw t_31 rfl 5 t_32 (by decide) rfl inn_X11_feed_11 (by decide) (X.2.2.2.1 (.fieldLink RX11 28 "SilkMill" "tape" "LSilkMill$Tape;") (by decide +kernel)) rfl (gv_1105 _ _) dX11_feed_35 ?_
    refine lv_iload_n X.1 X.2.1 dX11_feed_38 rfl (lv_at hl 3 rfl) ?_
    have t_33 : At S_25 q_1 10 := hk_26.fr.at t_23
    refine k_v (rm := { frames := 1, cells := 0, slots := 0, locals := 48 }) (av := [.ref q_1, .int (a3)]) X hw (va_runV (As := [.int (a3)]) (rest := []) (cfix X) (k_X10_append2 l G cy κ S_25 _ q_1 (a3) (a3_z) hO_27.1 t_33 hz_a3) (cwV 1 X.2.2.2.1 gX11_feed_X10_append rfl rfl rfl (by decide +kernel) ⟨Nat.le_of_ble_eq_true rfl, Nat.le_of_ble_eq_true rfl⟩) (pre_V X hw _ t_33 rfl (by decide) rfl) rfl rfl hl.1 rfl (lv_room (Nat.le_of_ble_eq_true rfl)) dX11_feed_39 ⟨Nat.le_of_ble_eq_true rfl, Nat.le_of_ble_eq_true rfl⟩) 0 0 (Nat.le_of_ble_eq_true rfl) (Nat.le_of_ble_eq_true rfl) (fun S_35 H locs hp hw hfr hnw => ?_)
    obtain ⟨hk_36, hp⟩ := hp
    have hO_37 : Ok eAP S S_35 := hO_27.call hk_36 (by decide +kernel)
    have ap_38 : (pI S_35 1000 q_1).toInt = (pI S_25 1000 q_1).toInt + 4 ∧ zA S_35 q_1 1003 = apB (zA S_25 q_1 1003) (pI S_25 1000 q_1).toInt.toNat a3_z := by rcases hp with ⟨h1, h2, h3⟩ | ⟨h1, h2⟩; exact ⟨h2, h3⟩; exfalso; omega
    have ap_40 := ap_38.1
    have fd_39 : zA S_35 q_1 1003 = fdP (selF a1_z a2_z a3_z a4_z a5_z) (zA S q_1 1003) (pI S 1000 q_1).toInt.toNat (4 * 3) := by rw [ap_38.2]; exact fdP_nx (i := 2) (s := (selF a1_z a2_z a3_z a4_z a5_z)) fd_29 (by omega) (sel_2 _ _ _ _ _).symm
    refine lv_aload_n X.1 X.2.1 dX11_feed_42 rfl (lv_at hl 0 rfl) ?_
    have t_41 : At S_35 x 11 := hk_36.fr.at t_31
    have t_42 : pR S_35 1105 x = some q_1 := hk_36.fr.R' (by decide +kernel) t_31 t_32
    refine r_getR (g := 1105) X hw t_41 rfl 5 t_42 (by decide) rfl inn_X11_feed_11 (by decide) (X.2.2.2.1 (.fieldLink RX11 28 "SilkMill" "tape" "LSilkMill$Tape;") (by decide +kernel)) rfl (gv_1105 _ _) dX11_feed_43 ?_
    refine lv_iload X.1 X.2.1 dX11_feed_46 (lv_at hl 4 rfl) ?_
    have t_43 : At S_35 q_1 10 := hk_36.fr.at t_33
    refine k_v (rm := { frames := 1, cells := 0, slots := 0, locals := 48 }) (av := [.ref q_1, .int (a4)]) X hw (va_runV (As := [.int (a4)]) (rest := []) (cfix X) (k_X10_append2 l G cy κ S_35 _ q_1 (a4) (a4_z) hO_37.1 t_43 hz_a4) (cwV 1 X.2.2.2.1 gX11_feed_X10_append rfl rfl rfl (by decide +kernel) ⟨Nat.le_of_ble_eq_true rfl, Nat.le_of_ble_eq_true rfl⟩) (pre_V X hw _ t_43 rfl (by decide) rfl) rfl rfl hl.1 rfl (lv_room (Nat.le_of_ble_eq_true rfl)) dX11_feed_48 ⟨Nat.le_of_ble_eq_true rfl, Nat.le_of_ble_eq_true rfl⟩) 0 0 (Nat.le_of_ble_eq_true rfl) (Nat.le_of_ble_eq_true rfl) (fun S_45 H locs hp hw hfr hnw => ?_)
    obtain ⟨hk_46, hp⟩ := hp
    have hO_47 : Ok eAP S S_45 := hO_37.call hk_46 (by decide +kernel)
    have ap_48 : (pI S_45 1000 q_1).toInt = (pI S_35 1000 q_1).toInt + 4 ∧ zA S_45 q_1 1003 = apB (zA S_35 q_1 1003) (pI S_35 1000 q_1).toInt.toNat a4_z := by rcases hp with ⟨h1, h2, h3⟩ | ⟨h1, h2⟩; exact ⟨h2, h3⟩; exfalso; omega
    have ap_50 := ap_48.1
    have fd_49 : zA S_45 q_1 1003 = fdP (selF a1_z a2_z a3_z a4_z a5_z) (zA S q_1 1003) (pI S 1000 q_1).toInt.toNat (4 * 4) := by rw [ap_48.2]; exact fdP_nx (i := 3) (s := (selF a1_z a2_z a3_z a4_z a5_z)) fd_39 (by omega) (sel_3 _ _ _ _ _).symm
    refine lv_aload_n X.1 X.2.1 dX11_feed_51 rfl (lv_at hl 0 rfl) ?_
    have t_51 : At S_45 x 11 := hk_46.fr.at t_41
    have t_52 : pR S_45 1105 x = some q_1 := hk_46.fr.R' (by decide +kernel) t_41 t_42
    refine r_getR (g := 1105) X hw t_51 rfl 5 t_52 (by decide) rfl inn_X11_feed_11 (by decide) (X.2.2.2.1 (.fieldLink RX11 28 "SilkMill" "tape" "LSilkMill$Tape;") (by decide +kernel)) rfl (gv_1105 _ _) dX11_feed_52 ?_
    refine lv_iload X.1 X.2.1 dX11_feed_55 (lv_at hl 5 rfl) ?_
    have t_53 : At S_45 q_1 10 := hk_46.fr.at t_43
    refine k_v (rm := { frames := 1, cells := 0, slots := 0, locals := 48 }) (av := [.ref q_1, .int (a5)]) X hw (va_runV (As := [.int (a5)]) (rest := []) (cfix X) (k_X10_append2 l G cy κ S_45 _ q_1 (a5) (a5_z) hO_47.1 t_53 hz_a5) (cwV 1 X.2.2.2.1 gX11_feed_X10_append rfl rfl rfl (by decide +kernel) ⟨Nat.le_of_ble_eq_true rfl, Nat.le_of_ble_eq_true rfl⟩) (pre_V X hw _ t_53 rfl (by decide) rfl) rfl rfl hl.1 rfl (lv_room (Nat.le_of_ble_eq_true rfl)) dX11_feed_57 ⟨Nat.le_of_ble_eq_true rfl, Nat.le_of_ble_eq_true rfl⟩) 0 0 (Nat.le_of_ble_eq_true rfl) (Nat.le_of_ble_eq_true rfl) (fun S_55 H locs hp hw hfr hnw => ?_)
    obtain ⟨hk_56, hp⟩ := hp
    have hO_57 : Ok eAP S S_55 := hO_47.call hk_56 (by decide +kernel)
    have ap_58 : (pI S_55 1000 q_1).toInt = (pI S_45 1000 q_1).toInt + 4 ∧ zA S_55 q_1 1003 = apB (zA S_45 q_1 1003) (pI S_45 1000 q_1).toInt.toNat a5_z := by rcases hp with ⟨h1, h2, h3⟩ | ⟨h1, h2⟩; exact ⟨h2, h3⟩; exfalso; omega
    have ap_60 := ap_58.1
    have fd_59 : zA S_55 q_1 1003 = fdP (selF a1_z a2_z a3_z a4_z a5_z) (zA S q_1 1003) (pI S 1000 q_1).toInt.toNat (4 * 5) := by rw [ap_58.2]; exact fdP_nx (i := 4) (s := (selF a1_z a2_z a3_z a4_z a5_z)) fd_49 (by omega) (sel_4 _ _ _ _ _).symm
    refine lv_aload_n X.1 X.2.1 dX11_feed_60 rfl (lv_at hl 0 rfl) ?_
    have t_61 : At S_55 x 11 := hk_56.fr.at t_51
    have t_62 : pR S_55 1105 x = some q_1 := hk_56.fr.R' (by decide +kernel) t_51 t_52
    refine r_getR (g := 1105) X hw t_61 rfl 5 t_62 (by decide) rfl inn_X11_feed_11 (by decide) (X.2.2.2.1 (.fieldLink RX11 28 "SilkMill" "tape" "LSilkMill$Tape;") (by decide +kernel)) rfl (gv_1105 _ _) dX11_feed_61 ?_
    have t_63 : At S_55 q_1 10 := hk_56.fr.at t_53
    obtain ⟨v_65, ev_65⟩ : ∃ v, pI S_55 1000 q_1 = v := ⟨_, rfl⟩
    have rg_66 := gI_10_1000 hO_57.1 t_63; rw [ev_65] at rg_66
    have pz_67 : (pI S_55 1000 q_1).toInt = v_65.toInt := by rw [ev_65]
    refine r_getI (g := 1000) (x := v_65) X hw t_63 rfl 0 ev_65 (by decide) rfl inn_X11_feed_10 (by decide) (X.2.2.2.1 (.fieldLink RX11 145 "SilkMill$Tape" "size" "I") (by decide +kernel)) rfl (gv_1000 _ _) dX11_feed_64 ?_
    have pz_68 : (pI S_55 1000 q_1).toInt = v_65.toInt := (congrArg Int32.toInt ev_65).trans rfl
    exact ret_i X hw hr hlocks (Nat.le_of_ble_eq_true rfl) (Nat.le_of_ble_eq_true rfl) ⟨hO_57, ⟨z_lo _, z_hi _, fun q0 hq0 => by rw [h_2] at hq0; cases hq0; omega, fun q0 hq0 => by rw [h_2] at hq0; cases hq0; exact ⟨fun _ => fd_59, fun h => by exfalso; omega⟩⟩⟩ dX11_feed_67
  · have z_b_69 := trivial
    have k_70 : v_9.toInt > 400 := z_nle rfl ti_400 c_11
    refine lv_iconst (v := (-1)) X.1 X.2.1 dX11_feed_16 (by decide) ?_
    have pz_71 : (pI S 1000 q_1).toInt = v_5.toInt := (congrArg Int32.toInt ev_5).trans rfl
    exact ret_i X hw hr hlocks (Nat.le_of_ble_eq_true rfl) (Nat.le_of_ble_eq_true rfl) ⟨hO, ⟨z_lo _, z_hi _, fun q0 hq0 => by rw [h_2] at hq0; cases hq0; have hzr := ti_m1; omega, fun q0 hq0 => by rw [h_2] at hq0; cases hq0; exact ⟨fun h => by exfalso; omega, fun _ => rfl⟩⟩⟩ dX11_feed_17
set_option maxHeartbeats 4000000 in
set_option maxRecDepth 100000 in
theorem k_X12_feed2 (l : Launch) (G : va_G) (cy : Nat → ClassId) (κ : Nat → Nat) (S : PS) (sz : Nat) (x : Nat) (a1 : Int32) (a1_z : Int) (a2 : Int32) (a2_z : Int) (a3 : Int32) (a3_z : Int) (a4 : Int32) (a4_z : Int) (a5 : Int32) (a5_z : Int) (hG : GX S) (ha_x : At S x 12) (hz_a1 : a1.toInt = a1_z) (hz_a2 : a2.toInt = a2_z) (hz_a3 : a3.toInt = a3_z) (hz_a4 : a4.toInt = a4_z) (hz_a5 : a5.toInt = a5_z) : Ci l yX12_feed wsX12_feed ({ frames := 1, cells := 0, slots := 0, locals := 48 }) G cy κ S sz [.ref x, .int (a1), .int (a2), .int (a3), .int (a4), .int (a5)] (fun (r : Int32) (S9 : PS) => Ok MT S S9 ∧ (-2147483648 ≤ r.toInt ∧ r.toInt ≤ 2147483647 ∧ (((pI S 1228 x).toInt ≤ 380 ∧ r.toInt = (pI S 1228 x).toInt + 20 ∧ (pI S9 1228 x).toInt = (pI S 1228 x).toInt + 20) ∨ (380 < (pI S 1228 x).toInt ∧ r.toInt = -1 ∧ (pI S9 1228 x).toInt = (pI S 1228 x).toInt)) ∧ ((pI S 1228 x).toInt ≤ 380 → zA S9 x 1227 = fdP (selF a1_z a2_z a3_z a4_z a5_z) (zA S x 1227) (pI S 1228 x).toInt.toNat (4 * 5)) ∧ (380 < (pI S 1228 x).toInt → zA S9 x 1227 = zA S x 1227))) := by
  refine ent_m (cc := cX12_feed) (maxL := 8) (ret := (some .int)) (by decide) rfl (Nat.le_of_ble_eq_true rfl) ?_
  intro p e s m below meth c ls X hr hlocks hin hw hl hsz
  subst hsz
  have X : Cx p c cX12_feed 8 s [.ref x, .int (a1), .int (a2), .int (a3), .int (a4), .int (a5)].toArray wsX12_feed RX12 m G cy κ (AS S s.heap.size) := X
  have hl : lv_has ls 8 [(0, .ref x), (1, .int (a1)), (2, .int (a2)), (3, .int (a3)), (4, .int (a4)), (5, .int (a5))] := hl
  have rg_a1 : (-2147483648) ≤ a1_z ∧ a1_z ≤ 2147483647 := by rw [← hz_a1]; exact ⟨z_lo _, z_hi _⟩
  have rg_a2 : (-2147483648) ≤ a2_z ∧ a2_z ≤ 2147483647 := by rw [← hz_a2]; exact ⟨z_lo _, z_hi _⟩
  have rg_a3 : (-2147483648) ≤ a3_z ∧ a3_z ≤ 2147483647 := by rw [← hz_a3]; exact ⟨z_lo _, z_hi _⟩
  have rg_a4 : (-2147483648) ≤ a4_z ∧ a4_z ≤ 2147483647 := by rw [← hz_a4]; exact ⟨z_lo _, z_hi _⟩
  have rg_a5 : (-2147483648) ≤ a5_z ∧ a5_z ≤ 2147483647 := by rw [← hz_a5]; exact ⟨z_lo _, z_hi _⟩
  have hO : Ok MT S S := Ok.rf hG
  generalize hQQ : MQ below _ _ _ _ _ _ = QQ
  replace hQQ := hQQ.symm
  obtain ⟨v_1, ev_1⟩ : ∃ v, pI S 1228 x = v := ⟨_, rfl⟩
  have rg_2 := gI_12_1228 hO.1 ha_x; rw [ev_1] at rg_2
  have pz_3 : (pI S 1228 x).toInt = v_1.toInt := by rw [ev_1]
  have pz_4 : (pI S 1228 x).toInt = v_1.toInt := (congrArg Int32.toInt ev_1).trans rfl
  refine lv_aload_n X.1 X.2.1 dX12_feed_0 rfl (lv_at hl 0 rfl) ?_
  refine lv_iconst (v := 0) X.1 X.2.1 dX12_feed_1 (by decide) ?_
  refine r_putI (v := 0) X hw ha_x rfl 0 1200 tyX12 (by decide) rfl inn_X12_feed_12 tyX12_ok nmX12 (by decide) (X.2.2.2.1 (.fieldLink RX12 161 "SilkMillModel" "thrown" "I") (by decide +kernel)) rfl (Or.inl rfl) rfl rfl (Nat.le_of_ble_eq_true rfl) (st_1200 _ _) dX12_feed_2 (fun H locs hw => ?_)
  obtain ⟨S_5, eS_5⟩ : ∃ T, T = sI S 1200 x (0) := ⟨_, rfl⟩
  rw [← eS_5] at hw
  have hO_6 : Ok MT S S_5 := hO.sI eS_5 (by decide +kernel) (uI_12_1200 hO.1 ha_x)
  have h_7 : pI S_5 1200 x = 0 := tI_sIs eS_5
  refine lv_aload_n X.1 X.2.1 dX12_feed_5 rfl (lv_at hl 0 rfl) ?_
  have t_8 : At S_5 x 12 := tAt_sI eS_5 ha_x
  have t_9 : pI S_5 1228 x = v_1 := tI_sI eS_5 rfl ev_1
  refine r_getI (g := 1228) (x := v_1) X hw t_8 rfl 28 t_9 (by decide) rfl inn_X12_feed_12 (by decide) (X.2.2.2.1 (.fieldLink RX12 211 "SilkMillModel" "taped" "I") (by decide +kernel)) rfl (gv_1228 _ _) dX12_feed_6 ?_
  refine lv_sipush (v := 380) X.1 X.2.1 dX12_feed_9 (by decide) ?_
  refine lv_icmp_le (tgt := 17) X.1 X.2.1 dX12_feed_12 (by decide) (fun c_10 => ?_) (fun c_10 => ?_)
  · have z_b_11 := trivial
    have k_12 : v_1.toInt ≤ 380 := z_le rfl ti_380 c_10
    refine lv_iconst (v := 0) X.1 X.2.1 dX12_feed_17 (by decide) ?_
    refine lv_istore (lv' := [(6, .int 0), (0, .ref x), (1, .int (a1)), (2, .int (a2)), (3, .int (a3)), (4, .int (a4)), (5, .int (a5))]) X.1 X.2.1 dX12_feed_18 hl (by decide) rfl (fun ls hl => ?_)
    have L_13 : ∀ (n : Nat) (T_15 : PS) (H : Heap) (locs : List Loc) (ls : Array Slot) (i6_14 : Int32) (i6_14_z : Int), ((20 - i6_14_z).toNat = n) → (Wd G cy (AS S s.heap.size) s.heap T_15 H locs) → (i6_14.toInt = i6_14_z) → (0 ≤ i6_14_z ∧ i6_14_z ≤ 20) → (At T_15 x 12) → (Ok MT S T_15) → ((pI T_15 1228 x).toInt = (pI S 1228 x).toInt + i6_14_z) → (zA T_15 x 1227 = fdP (selF a1_z a2_z a3_z a4_z a5_z) (zA S x 1227) (pI S 1228 x).toInt.toNat (i6_14_z).toNat) → (lv_has ls 8 [(6, .int (i6_14)), (0, .ref x), (1, .int (a1)), (2, .int (a2)), (3, .int (a3)), (4, .int (a4)), (5, .int (a5))]) → W p l e ({ frames := 1, cells := 0, slots := 0, locals := 48 }) s m [.ref x, .int (a1), .int (a2), .int (a3), .int (a4), .int (a5)].toArray below meth c H locs 0 0 QQ (F0 m 20 ls []) := by
      intro n
      induction n using Nat.strongRecOn with
      | ind n ih_L_13 =>
      intro T_15 H locs ls i6_14 i6_14_z hn hw hz_i6_14 hr_i6_14 ha_x_L_16 hO_T_15 iv_17 iv_18 hl
      have rg_19 : (-2147483648) ≤ i6_14_z ∧ i6_14_z ≤ 2147483647 := by rw [← hz_i6_14]; exact ⟨z_lo _, z_hi _⟩
      obtain ⟨v_20, ev_20⟩ : ∃ v, pI T_15 1228 x = v := ⟨_, rfl⟩
      have rg_21 := gI_12_1228 hO_T_15.1 ha_x_L_16; rw [ev_20] at rg_21
      have pz_22 : (pI T_15 1228 x).toInt = v_20.toInt := by rw [ev_20]
      have pz_23 : (pI T_15 1228 x).toInt = v_20.toInt := (congrArg Int32.toInt ev_20).trans rfl
      refine lv_iload X.1 X.2.1 dX12_feed_20 (lv_at hl 0 rfl) ?_
      refine lv_bipush (v := 20) X.1 X.2.1 dX12_feed_22 (by decide) ?_
      refine lv_icmp_ge (tgt := 114) X.1 X.2.1 dX12_feed_24 (by decide) (fun c_24 => ?_) (fun c_24 => ?_)
      · have z_b_25 := trivial
        have k_26 : i6_14_z ≥ 20 := z_le ti_20 hz_i6_14 c_24
        refine lv_aload_n X.1 X.2.1 dX12_feed_114 rfl (lv_at hl 1 rfl) ?_
        refine r_getI (g := 1228) (x := v_20) X hw ha_x_L_16 rfl 28 ev_20 (by decide) rfl inn_X12_feed_12 (by decide) (X.2.2.2.1 (.fieldLink RX12 211 "SilkMillModel" "taped" "I") (by decide +kernel)) rfl (gv_1228 _ _) dX12_feed_115 ?_
        have pz_27 : (pI T_15 1228 x).toInt = v_20.toInt := (congrArg Int32.toInt ev_20).trans rfl
        rw [hQQ]
        exact ret_i X hw hr hlocks (Nat.le_of_ble_eq_true rfl) (Nat.le_of_ble_eq_true rfl) ⟨hO_T_15, ⟨z_lo _, z_hi _, by omega, fun _ => by rw [iv_18, show (i6_14_z).toNat = 4 * 5 by omega], fun h => by exfalso; omega⟩⟩ dX12_feed_118
      · have z_b_28 := trivial
        have k_29 : i6_14_z < 20 := z_nle ti_20 hz_i6_14 c_24
        refine lv_iload X.1 X.2.1 dX12_feed_27 (lv_at hl 0 rfl) ?_
        refine lv_iconst (v := 4) X.1 X.2.1 dX12_feed_29 (by decide) ?_
        refine lv_icmp_ge (tgt := 37) X.1 X.2.1 dX12_feed_30 (by decide) (fun c_30 => ?_) (fun c_30 => ?_)
        · have z_b_31 := trivial
          have k_32 : i6_14_z ≥ 4 := z_le ti_4 hz_i6_14 c_30
          refine lv_iload X.1 X.2.1 dX12_feed_37 (lv_at hl 0 rfl) ?_
          refine lv_bipush (v := 8) X.1 X.2.1 dX12_feed_39 (by decide) ?_
          refine lv_icmp_ge (tgt := 48) X.1 X.2.1 dX12_feed_41 (by decide) (fun c_33 => ?_) (fun c_33 => ?_)
          · have z_b_34 := trivial
            have k_35 : i6_14_z ≥ 8 := z_le ti_8 hz_i6_14 c_33
            refine lv_iload X.1 X.2.1 dX12_feed_48 (lv_at hl 0 rfl) ?_
            refine lv_bipush (v := 12) X.1 X.2.1 dX12_feed_50 (by decide) ?_
            refine lv_icmp_ge (tgt := 59) X.1 X.2.1 dX12_feed_52 (by decide) (fun c_36 => ?_) (fun c_36 => ?_)
            · have z_b_37 := trivial
              have k_38 : i6_14_z ≥ 12 := z_le ti_12 hz_i6_14 c_36
              refine lv_iload X.1 X.2.1 dX12_feed_59 (lv_at hl 0 rfl) ?_
              refine lv_bipush (v := 16) X.1 X.2.1 dX12_feed_61 (by decide) ?_
              refine lv_icmp_ge (tgt := 71) X.1 X.2.1 dX12_feed_63 (by decide) (fun c_39 => ?_) (fun c_39 => ?_)
              · have z_b_40 := trivial
                have k_41 : i6_14_z ≥ 16 := z_le ti_16 hz_i6_14 c_39
                refine lv_iload X.1 X.2.1 dX12_feed_71 (lv_at hl 6 rfl) ?_
                refine lv_istore (lv' := [(7, .int (a5)), (6, .int (i6_14)), (0, .ref x), (1, .int (a1)), (2, .int (a2)), (3, .int (a3)), (4, .int (a4)), (5, .int (a5))]) X.1 X.2.1 dX12_feed_73 hl (by decide) rfl (fun ls hl => ?_)
                refine lv_aload_n X.1 X.2.1 dX12_feed_75 rfl (lv_at hl 2 rfl) ?_
                obtain ⟨q_42, h_43, h_44, h_45⟩ := gQ_12_1227 hO_T_15.1 ha_x_L_16
                refine r_getR (g := 1227) X hw ha_x_L_16 rfl 27 h_43 (by decide) rfl inn_X12_feed_12 (by decide) (X.2.2.2.1 (.fieldLink RX12 82 "SilkMillModel" "tape" "[B") (by decide +kernel)) rfl (gv_1227 _ _) dX12_feed_76 ?_
                refine lv_aload_n X.1 X.2.1 dX12_feed_79 rfl (lv_at hl 2 rfl) ?_
                refine r_getI (g := 1228) (x := v_20) X hw ha_x_L_16 rfl 28 ev_20 (by decide) rfl inn_X12_feed_12 (by decide) (X.2.2.2.1 (.fieldLink RX12 211 "SilkMillModel" "taped" "I") (by decide +kernel)) rfl (gv_1228 _ _) dX12_feed_80 ?_
                refine lv_iload X.1 X.2.1 dX12_feed_83 (lv_at hl 0 rfl) ?_
                refine lv_bipush (v := 24) X.1 X.2.1 dX12_feed_85 (by decide) ?_
                refine lv_bipush (v := 8) X.1 X.2.1 dX12_feed_87 (by decide) ?_
                refine lv_iload X.1 X.2.1 dX12_feed_89 (lv_at hl 1 rfl) ?_
                refine lv_iconst (v := 4) X.1 X.2.1 dX12_feed_91 (by decide) ?_
                refine lv_irem X.1 X.2.1 dX12_feed_92 (by decide) ?_
                refine lv_topi (fun v_46 ev_46 => ?_)
                have z_47 : v_46.toInt = i6_14_z % 4 := z_rem ev_46 hz_i6_14 ti_4 (by omega) (by omega)
                have z_48 : 0 ≤ v_46.toInt ∧ v_46.toInt < 4 := by rw [z_47]; exact ⟨Int.emod_nonneg _ (by omega), Int.emod_lt_of_pos _ (by omega)⟩
                refine lv_imul X.1 X.2.1 dX12_feed_93 ?_
                refine lv_topi (fun v_49 ev_49 => ?_)
                have z_50 : v_49.toInt = 8 * (i6_14_z % 4) := z_mul ev_49 ti_8 z_47 (by omega) (by omega)
                refine lv_isub X.1 X.2.1 dX12_feed_94 ?_
                refine lv_topi (fun v_51 ev_51 => ?_)
                have z_52 : v_51.toInt = 24 - (8 * (i6_14_z % 4)) := z_sub ev_51 ti_24 z_50 (by omega) (by omega)
                refine lv_ishr X.1 X.2.1 dX12_feed_95 ?_
                refine lv_topi (fun v_53 ev_53 => ?_)
                have rg_54 := And.intro (z_lo v_53) (z_hi v_53)
                refine lv_i2b X.1 X.2.1 dX12_feed_96 rfl ?_
                refine lv_topi (fun v_55 ev_55 => ?_)
                have rg_56 := And.intro (z_lo v_55) (z_hi v_55)
                refine r_bast X hw h_44 rfl (by rw [h_45]; exact z_ix rfl (by omega) (by omega)) dX12_feed_97 (fun H locs hw => ?_)
                obtain ⟨S_57, eS_57⟩ : ∃ T, T = sA T_15 q_42 (upd (pA T_15 q_42) (Int32.toNatClampNeg (v_20)) (vp_nar .byte (v_55))) := ⟨_, rfl⟩
                rw [← eS_57] at hw
                have hO_58 : Ok MT S S_57 := hO_T_15.sA eS_57 h_44 (by decide +kernel) (uA_753 hO_T_15.1 h_44 (nar_b _).1 (nar_b _).2)
                have t_59 : pR S_57 1227 x = some q_42 := tR_sA eS_57 h_43
                have t_60 : pR T_15 1227 x = some q_42 := by have h := t_59; rw [eS_57, pR_sA] at h; exact h
                have bv_61 : v_55.toInt = sgb a5_z (((i6_14_z).toNat % 4 : Nat) : Int) := by rw [z_i2b ev_55, b_ishv (r := (((i6_14_z).toNat % 4 : Nat) : Int)) ev_53 (by rw [z_52]; omega) (by omega) (by omega), hz_a5]
                have bn_62 : (vp_nar .byte (v_55)).toInt = sgb a5_z (((i6_14_z).toNat % 4 : Nat) : Int) := z_narb bv_61 (sgb_rng _ _).1 (sgb_rng _ _).2
                have bz_63 : ∀ j, zA S_57 x 1227 j = if j = (pI S 1228 x).toInt.toNat + (i6_14_z).toNat then sgb a5_z (((i6_14_z).toNat % 4 : Nat) : Int) else zA T_15 x 1227 j := by have h := zA_sAs eS_57 t_60 bn_62; rw [z_nc rfl (by omega), show (v_20.toInt).toNat = (pI S 1228 x).toInt.toNat + (i6_14_z).toNat by omega] at h; exact h
                refine lv_aload_n X.1 X.2.1 dX12_feed_98 rfl (lv_at hl 2 rfl) ?_
                refine lv_dup X.1 X.2.1 dX12_feed_99 rfl ?_
                have t_64 : At S_57 x 12 := tAt_sA eS_57 ha_x_L_16
                have t_65 : pI S_57 1228 x = v_20 := tI_sA eS_57 ev_20
                refine r_getI (g := 1228) (x := v_20) X hw t_64 rfl 28 t_65 (by decide) rfl inn_X12_feed_12 (by decide) (X.2.2.2.1 (.fieldLink RX12 211 "SilkMillModel" "taped" "I") (by decide +kernel)) rfl (gv_1228 _ _) dX12_feed_100 ?_
                refine lv_iconst (v := 1) X.1 X.2.1 dX12_feed_103 (by decide) ?_
                refine lv_iadd X.1 X.2.1 dX12_feed_104 ?_
                refine lv_topi (fun v_66 ev_66 => ?_)
                have z_67 : v_66.toInt = v_20.toInt + 1 := z_add ev_66 rfl ti_1 (by omega) (by omega)
                refine r_putI (v := v_66) X hw t_64 rfl 28 1228 tyX12 (by decide) rfl inn_X12_feed_12 tyX12_ok nmX12 (by decide) (X.2.2.2.1 (.fieldLink RX12 211 "SilkMillModel" "taped" "I") (by decide +kernel)) rfl (Or.inl rfl) rfl rfl (Nat.le_of_ble_eq_true rfl) (st_1228 _ _) dX12_feed_105 (fun H locs hw => ?_)
                obtain ⟨S_68, eS_68⟩ : ∃ T, T = sI S_57 1228 x (v_66) := ⟨_, rfl⟩
                rw [← eS_68] at hw
                have hO_69 : Ok MT S S_68 := hO_58.sI eS_68 (by decide +kernel) (uI_12_1228 hO_58.1 t_64 (by omega) (by omega))
                have h_70 : pI S_68 1228 x = v_66 := tI_sIs eS_68
                obtain ⟨x_71, ex_71⟩ : ∃ y : Int32, y = i6_14 + 1 := ⟨_, rfl⟩
                have z_72 : x_71.toInt = i6_14_z + 1 := z_add ex_71 hz_i6_14 ti_1 (by omega) (by omega)
                refine lv_iinc (v := x_71) (lv' := [(6, .int (x_71)), (7, .int (a5)), (0, .ref x), (1, .int (a1)), (2, .int (a2)), (3, .int (a3)), (4, .int (a4)), (5, .int (a5))]) X.1 X.2.1 dX12_feed_108 hl (k := 1) rfl (by rw [ex_71]; rfl) (by decide) rfl (fun ls hl => ?_)
                refine lv_goto (tgt := 20) X.1 X.2.1 dX12_feed_111 (by decide) ?_
                have pz_73 : (pI S_68 1228 x).toInt = (v_20.toInt + 1) := (congrArg Int32.toInt h_70).trans z_67
                have t_74 : At S_68 x 12 := tAt_sI eS_68 t_64
                have zc_75 : zA S_68 x 1227 = zA S_57 x 1227 := zA_sI eS_68
                exact ih_L_13 _ (by omega) _ _ _ _ (x_71) (x_71.toInt) rfl hw rfl (by omega) t_74 hO_69 (by omega) (by funext j; rw [zc_75, bz_63 j, iv_18, show (x_71.toInt).toNat = (i6_14_z).toNat + 1 by omega]; exact fdP_put (by rw [show (i6_14_z).toNat / 4 = 4 by omega, sel_4]) j) (lv_sub hl [0, 2, 3, 4, 5, 6, 7] rfl)
              · have z_b_76 := trivial
                have k_77 : i6_14_z < 16 := z_nle ti_16 hz_i6_14 c_39
                refine lv_iload X.1 X.2.1 dX12_feed_66 (lv_at hl 5 rfl) ?_
                refine lv_goto (tgt := 73) X.1 X.2.1 dX12_feed_68 (by decide) ?_
                refine lv_istore (lv' := [(7, .int (a4)), (6, .int (i6_14)), (0, .ref x), (1, .int (a1)), (2, .int (a2)), (3, .int (a3)), (4, .int (a4)), (5, .int (a5))]) X.1 X.2.1 dX12_feed_73 hl (by decide) rfl (fun ls hl => ?_)
                refine lv_aload_n X.1 X.2.1 dX12_feed_75 rfl (lv_at hl 2 rfl) ?_
                obtain ⟨q_78, h_79, h_80, h_81⟩ := gQ_12_1227 hO_T_15.1 ha_x_L_16
                refine r_getR (g := 1227) X hw ha_x_L_16 rfl 27 h_79 (by decide) rfl inn_X12_feed_12 (by decide) (X.2.2.2.1 (.fieldLink RX12 82 "SilkMillModel" "tape" "[B") (by decide +kernel)) rfl (gv_1227 _ _) dX12_feed_76 ?_
                refine lv_aload_n X.1 X.2.1 dX12_feed_79 rfl (lv_at hl 2 rfl) ?_
                refine r_getI (g := 1228) (x := v_20) X hw ha_x_L_16 rfl 28 ev_20 (by decide) rfl inn_X12_feed_12 (by decide) (X.2.2.2.1 (.fieldLink RX12 211 "SilkMillModel" "taped" "I") (by decide +kernel)) rfl (gv_1228 _ _) dX12_feed_80 ?_
                refine lv_iload X.1 X.2.1 dX12_feed_83 (lv_at hl 0 rfl) ?_
                refine lv_bipush (v := 24) X.1 X.2.1 dX12_feed_85 (by decide) ?_
                refine lv_bipush (v := 8) X.1 X.2.1 dX12_feed_87 (by decide) ?_
                refine lv_iload X.1 X.2.1 dX12_feed_89 (lv_at hl 1 rfl) ?_
                refine lv_iconst (v := 4) X.1 X.2.1 dX12_feed_91 (by decide) ?_
                refine lv_irem X.1 X.2.1 dX12_feed_92 (by decide) ?_
                refine lv_topi (fun v_82 ev_82 => ?_)
                have z_83 : v_82.toInt = i6_14_z % 4 := z_rem ev_82 hz_i6_14 ti_4 (by omega) (by omega)
                have z_84 : 0 ≤ v_82.toInt ∧ v_82.toInt < 4 := by rw [z_83]; exact ⟨Int.emod_nonneg _ (by omega), Int.emod_lt_of_pos _ (by omega)⟩
                refine lv_imul X.1 X.2.1 dX12_feed_93 ?_
                refine lv_topi (fun v_85 ev_85 => ?_)
                have z_86 : v_85.toInt = 8 * (i6_14_z % 4) := z_mul ev_85 ti_8 z_83 (by omega) (by omega)
                refine lv_isub X.1 X.2.1 dX12_feed_94 ?_
                refine lv_topi (fun v_87 ev_87 => ?_)
                have z_88 : v_87.toInt = 24 - (8 * (i6_14_z % 4)) := z_sub ev_87 ti_24 z_86 (by omega) (by omega)
                refine lv_ishr X.1 X.2.1 dX12_feed_95 ?_
                refine lv_topi (fun v_89 ev_89 => ?_)
                have rg_90 := And.intro (z_lo v_89) (z_hi v_89)
                refine lv_i2b X.1 X.2.1 dX12_feed_96 rfl ?_
                refine lv_topi (fun v_91 ev_91 => ?_)
                have rg_92 := And.intro (z_lo v_91) (z_hi v_91)
                refine r_bast X hw h_80 rfl (by rw [h_81]; exact z_ix rfl (by omega) (by omega)) dX12_feed_97 (fun H locs hw => ?_)
                obtain ⟨S_93, eS_93⟩ : ∃ T, T = sA T_15 q_78 (upd (pA T_15 q_78) (Int32.toNatClampNeg (v_20)) (vp_nar .byte (v_91))) := ⟨_, rfl⟩
                rw [← eS_93] at hw
                have hO_94 : Ok MT S S_93 := hO_T_15.sA eS_93 h_80 (by decide +kernel) (uA_753 hO_T_15.1 h_80 (nar_b _).1 (nar_b _).2)
                have t_95 : pR S_93 1227 x = some q_78 := tR_sA eS_93 h_79
                have t_96 : pR T_15 1227 x = some q_78 := by have h := t_95; rw [eS_93, pR_sA] at h; exact h
                have bv_97 : v_91.toInt = sgb a4_z (((i6_14_z).toNat % 4 : Nat) : Int) := by rw [z_i2b ev_91, b_ishv (r := (((i6_14_z).toNat % 4 : Nat) : Int)) ev_89 (by rw [z_88]; omega) (by omega) (by omega), hz_a4]
                have bn_98 : (vp_nar .byte (v_91)).toInt = sgb a4_z (((i6_14_z).toNat % 4 : Nat) : Int) := z_narb bv_97 (sgb_rng _ _).1 (sgb_rng _ _).2
                have bz_99 : ∀ j, zA S_93 x 1227 j = if j = (pI S 1228 x).toInt.toNat + (i6_14_z).toNat then sgb a4_z (((i6_14_z).toNat % 4 : Nat) : Int) else zA T_15 x 1227 j := by have h := zA_sAs eS_93 t_96 bn_98; rw [z_nc rfl (by omega), show (v_20.toInt).toNat = (pI S 1228 x).toInt.toNat + (i6_14_z).toNat by omega] at h; exact h
                refine lv_aload_n X.1 X.2.1 dX12_feed_98 rfl (lv_at hl 2 rfl) ?_
                refine lv_dup X.1 X.2.1 dX12_feed_99 rfl ?_
                have t_100 : At S_93 x 12 := tAt_sA eS_93 ha_x_L_16
                have t_101 : pI S_93 1228 x = v_20 := tI_sA eS_93 ev_20
                refine r_getI (g := 1228) (x := v_20) X hw t_100 rfl 28 t_101 (by decide) rfl inn_X12_feed_12 (by decide) (X.2.2.2.1 (.fieldLink RX12 211 "SilkMillModel" "taped" "I") (by decide +kernel)) rfl (gv_1228 _ _) dX12_feed_100 ?_
                refine lv_iconst (v := 1) X.1 X.2.1 dX12_feed_103 (by decide) ?_
                refine lv_iadd X.1 X.2.1 dX12_feed_104 ?_
                refine lv_topi (fun v_102 ev_102 => ?_)
                have z_103 : v_102.toInt = v_20.toInt + 1 := z_add ev_102 rfl ti_1 (by omega) (by omega)
                refine r_putI (v := v_102) X hw t_100 rfl 28 1228 tyX12 (by decide) rfl inn_X12_feed_12 tyX12_ok nmX12 (by decide) (X.2.2.2.1 (.fieldLink RX12 211 "SilkMillModel" "taped" "I") (by decide +kernel)) rfl (Or.inl rfl) rfl rfl (Nat.le_of_ble_eq_true rfl) (st_1228 _ _) dX12_feed_105 (fun H locs hw => ?_)
                obtain ⟨S_104, eS_104⟩ : ∃ T, T = sI S_93 1228 x (v_102) := ⟨_, rfl⟩
                rw [← eS_104] at hw
                have hO_105 : Ok MT S S_104 := hO_94.sI eS_104 (by decide +kernel) (uI_12_1228 hO_94.1 t_100 (by omega) (by omega))
                have h_106 : pI S_104 1228 x = v_102 := tI_sIs eS_104
                obtain ⟨x_107, ex_107⟩ : ∃ y : Int32, y = i6_14 + 1 := ⟨_, rfl⟩
                have z_108 : x_107.toInt = i6_14_z + 1 := z_add ex_107 hz_i6_14 ti_1 (by omega) (by omega)
                refine lv_iinc (v := x_107) (lv' := [(6, .int (x_107)), (7, .int (a4)), (0, .ref x), (1, .int (a1)), (2, .int (a2)), (3, .int (a3)), (4, .int (a4)), (5, .int (a5))]) X.1 X.2.1 dX12_feed_108 hl (k := 1) rfl (by rw [ex_107]; rfl) (by decide) rfl (fun ls hl => ?_)
                refine lv_goto (tgt := 20) X.1 X.2.1 dX12_feed_111 (by decide) ?_
                have pz_109 : (pI S_104 1228 x).toInt = (v_20.toInt + 1) := (congrArg Int32.toInt h_106).trans z_103
                have t_110 : At S_104 x 12 := tAt_sI eS_104 t_100
                have zc_111 : zA S_104 x 1227 = zA S_93 x 1227 := zA_sI eS_104
                exact ih_L_13 _ (by omega) _ _ _ _ (x_107) (x_107.toInt) rfl hw rfl (by omega) t_110 hO_105 (by omega) (by funext j; rw [zc_111, bz_99 j, iv_18, show (x_107.toInt).toNat = (i6_14_z).toNat + 1 by omega]; exact fdP_put (by rw [show (i6_14_z).toNat / 4 = 3 by omega, sel_3]) j) (lv_sub hl [0, 2, 3, 4, 5, 6, 7] rfl)
            · have z_b_112 := trivial
              have k_113 : i6_14_z < 12 := z_nle ti_12 hz_i6_14 c_36
              refine lv_iload_n X.1 X.2.1 dX12_feed_55 rfl (lv_at hl 4 rfl) ?_
              refine lv_goto (tgt := 73) X.1 X.2.1 dX12_feed_56 (by decide) ?_
              refine lv_istore (lv' := [(7, .int (a3)), (6, .int (i6_14)), (0, .ref x), (1, .int (a1)), (2, .int (a2)), (3, .int (a3)), (4, .int (a4)), (5, .int (a5))]) X.1 X.2.1 dX12_feed_73 hl (by decide) rfl (fun ls hl => ?_)
              refine lv_aload_n X.1 X.2.1 dX12_feed_75 rfl (lv_at hl 2 rfl) ?_
              obtain ⟨q_114, h_115, h_116, h_117⟩ := gQ_12_1227 hO_T_15.1 ha_x_L_16
              refine r_getR (g := 1227) X hw ha_x_L_16 rfl 27 h_115 (by decide) rfl inn_X12_feed_12 (by decide) (X.2.2.2.1 (.fieldLink RX12 82 "SilkMillModel" "tape" "[B") (by decide +kernel)) rfl (gv_1227 _ _) dX12_feed_76 ?_
              refine lv_aload_n X.1 X.2.1 dX12_feed_79 rfl (lv_at hl 2 rfl) ?_
              refine r_getI (g := 1228) (x := v_20) X hw ha_x_L_16 rfl 28 ev_20 (by decide) rfl inn_X12_feed_12 (by decide) (X.2.2.2.1 (.fieldLink RX12 211 "SilkMillModel" "taped" "I") (by decide +kernel)) rfl (gv_1228 _ _) dX12_feed_80 ?_
              refine lv_iload X.1 X.2.1 dX12_feed_83 (lv_at hl 0 rfl) ?_
              refine lv_bipush (v := 24) X.1 X.2.1 dX12_feed_85 (by decide) ?_
              refine lv_bipush (v := 8) X.1 X.2.1 dX12_feed_87 (by decide) ?_
              refine lv_iload X.1 X.2.1 dX12_feed_89 (lv_at hl 1 rfl) ?_
              refine lv_iconst (v := 4) X.1 X.2.1 dX12_feed_91 (by decide) ?_
              refine lv_irem X.1 X.2.1 dX12_feed_92 (by decide) ?_
              refine lv_topi (fun v_118 ev_118 => ?_)
              have z_119 : v_118.toInt = i6_14_z % 4 := z_rem ev_118 hz_i6_14 ti_4 (by omega) (by omega)
              have z_120 : 0 ≤ v_118.toInt ∧ v_118.toInt < 4 := by rw [z_119]; exact ⟨Int.emod_nonneg _ (by omega), Int.emod_lt_of_pos _ (by omega)⟩
              refine lv_imul X.1 X.2.1 dX12_feed_93 ?_
              refine lv_topi (fun v_121 ev_121 => ?_)
              have z_122 : v_121.toInt = 8 * (i6_14_z % 4) := z_mul ev_121 ti_8 z_119 (by omega) (by omega)
              refine lv_isub X.1 X.2.1 dX12_feed_94 ?_
              refine lv_topi (fun v_123 ev_123 => ?_)
              have z_124 : v_123.toInt = 24 - (8 * (i6_14_z % 4)) := z_sub ev_123 ti_24 z_122 (by omega) (by omega)
              refine lv_ishr X.1 X.2.1 dX12_feed_95 ?_
              refine lv_topi (fun v_125 ev_125 => ?_)
              have rg_126 := And.intro (z_lo v_125) (z_hi v_125)
              refine lv_i2b X.1 X.2.1 dX12_feed_96 rfl ?_
              refine lv_topi (fun v_127 ev_127 => ?_)
              have rg_128 := And.intro (z_lo v_127) (z_hi v_127)
              refine r_bast X hw h_116 rfl (by rw [h_117]; exact z_ix rfl (by omega) (by omega)) dX12_feed_97 (fun H locs hw => ?_)
              obtain ⟨S_129, eS_129⟩ : ∃ T, T = sA T_15 q_114 (upd (pA T_15 q_114) (Int32.toNatClampNeg (v_20)) (vp_nar .byte (v_127))) := ⟨_, rfl⟩
              rw [← eS_129] at hw
              have hO_130 : Ok MT S S_129 := hO_T_15.sA eS_129 h_116 (by decide +kernel) (uA_753 hO_T_15.1 h_116 (nar_b _).1 (nar_b _).2)
              have t_131 : pR S_129 1227 x = some q_114 := tR_sA eS_129 h_115
              have t_132 : pR T_15 1227 x = some q_114 := by have h := t_131; rw [eS_129, pR_sA] at h; exact h
              have bv_133 : v_127.toInt = sgb a3_z (((i6_14_z).toNat % 4 : Nat) : Int) := by rw [z_i2b ev_127, b_ishv (r := (((i6_14_z).toNat % 4 : Nat) : Int)) ev_125 (by rw [z_124]; omega) (by omega) (by omega), hz_a3]
              have bn_134 : (vp_nar .byte (v_127)).toInt = sgb a3_z (((i6_14_z).toNat % 4 : Nat) : Int) := z_narb bv_133 (sgb_rng _ _).1 (sgb_rng _ _).2
              have bz_135 : ∀ j, zA S_129 x 1227 j = if j = (pI S 1228 x).toInt.toNat + (i6_14_z).toNat then sgb a3_z (((i6_14_z).toNat % 4 : Nat) : Int) else zA T_15 x 1227 j := by have h := zA_sAs eS_129 t_132 bn_134; rw [z_nc rfl (by omega), show (v_20.toInt).toNat = (pI S 1228 x).toInt.toNat + (i6_14_z).toNat by omega] at h; exact h
              refine lv_aload_n X.1 X.2.1 dX12_feed_98 rfl (lv_at hl 2 rfl) ?_
              refine lv_dup X.1 X.2.1 dX12_feed_99 rfl ?_
              have t_136 : At S_129 x 12 := tAt_sA eS_129 ha_x_L_16
              have t_137 : pI S_129 1228 x = v_20 := tI_sA eS_129 ev_20
              refine r_getI (g := 1228) (x := v_20) X hw t_136 rfl 28 t_137 (by decide) rfl inn_X12_feed_12 (by decide) (X.2.2.2.1 (.fieldLink RX12 211 "SilkMillModel" "taped" "I") (by decide +kernel)) rfl (gv_1228 _ _) dX12_feed_100 ?_
              refine lv_iconst (v := 1) X.1 X.2.1 dX12_feed_103 (by decide) ?_
              refine lv_iadd X.1 X.2.1 dX12_feed_104 ?_
              refine lv_topi (fun v_138 ev_138 => ?_)
              have z_139 : v_138.toInt = v_20.toInt + 1 := z_add ev_138 rfl ti_1 (by omega) (by omega)
              refine r_putI (v := v_138) X hw t_136 rfl 28 1228 tyX12 (by decide) rfl inn_X12_feed_12 tyX12_ok nmX12 (by decide) (X.2.2.2.1 (.fieldLink RX12 211 "SilkMillModel" "taped" "I") (by decide +kernel)) rfl (Or.inl rfl) rfl rfl (Nat.le_of_ble_eq_true rfl) (st_1228 _ _) dX12_feed_105 (fun H locs hw => ?_)
              obtain ⟨S_140, eS_140⟩ : ∃ T, T = sI S_129 1228 x (v_138) := ⟨_, rfl⟩
              rw [← eS_140] at hw
              have hO_141 : Ok MT S S_140 := hO_130.sI eS_140 (by decide +kernel) (uI_12_1228 hO_130.1 t_136 (by omega) (by omega))
              have h_142 : pI S_140 1228 x = v_138 := tI_sIs eS_140
              obtain ⟨x_143, ex_143⟩ : ∃ y : Int32, y = i6_14 + 1 := ⟨_, rfl⟩
              have z_144 : x_143.toInt = i6_14_z + 1 := z_add ex_143 hz_i6_14 ti_1 (by omega) (by omega)
              refine lv_iinc (v := x_143) (lv' := [(6, .int (x_143)), (7, .int (a3)), (0, .ref x), (1, .int (a1)), (2, .int (a2)), (3, .int (a3)), (4, .int (a4)), (5, .int (a5))]) X.1 X.2.1 dX12_feed_108 hl (k := 1) rfl (by rw [ex_143]; rfl) (by decide) rfl (fun ls hl => ?_)
              refine lv_goto (tgt := 20) X.1 X.2.1 dX12_feed_111 (by decide) ?_
              have pz_145 : (pI S_140 1228 x).toInt = (v_20.toInt + 1) := (congrArg Int32.toInt h_142).trans z_139
              have t_146 : At S_140 x 12 := tAt_sI eS_140 t_136
              have zc_147 : zA S_140 x 1227 = zA S_129 x 1227 := zA_sI eS_140
              exact ih_L_13 _ (by omega) _ _ _ _ (x_143) (x_143.toInt) rfl hw rfl (by omega) t_146 hO_141 (by omega) (by funext j; rw [zc_147, bz_135 j, iv_18, show (x_143.toInt).toNat = (i6_14_z).toNat + 1 by omega]; exact fdP_put (by rw [show (i6_14_z).toNat / 4 = 2 by omega, sel_2]) j) (lv_sub hl [0, 2, 3, 4, 5, 6, 7] rfl)
          · have z_b_148 := trivial
            have k_149 : i6_14_z < 8 := z_nle ti_8 hz_i6_14 c_33
            refine lv_iload_n X.1 X.2.1 dX12_feed_44 rfl (lv_at hl 3 rfl) ?_
            refine lv_goto (tgt := 73) X.1 X.2.1 dX12_feed_45 (by decide) ?_
            refine lv_istore (lv' := [(7, .int (a2)), (6, .int (i6_14)), (0, .ref x), (1, .int (a1)), (2, .int (a2)), (3, .int (a3)), (4, .int (a4)), (5, .int (a5))]) X.1 X.2.1 dX12_feed_73 hl (by decide) rfl (fun ls hl => ?_)
            refine lv_aload_n X.1 X.2.1 dX12_feed_75 rfl (lv_at hl 2 rfl) ?_
            obtain ⟨q_150, h_151, h_152, h_153⟩ := gQ_12_1227 hO_T_15.1 ha_x_L_16
            refine r_getR (g := 1227) X hw ha_x_L_16 rfl 27 h_151 (by decide) rfl inn_X12_feed_12 (by decide) (X.2.2.2.1 (.fieldLink RX12 82 "SilkMillModel" "tape" "[B") (by decide +kernel)) rfl (gv_1227 _ _) dX12_feed_76 ?_
            refine lv_aload_n X.1 X.2.1 dX12_feed_79 rfl (lv_at hl 2 rfl) ?_
            refine r_getI (g := 1228) (x := v_20) X hw ha_x_L_16 rfl 28 ev_20 (by decide) rfl inn_X12_feed_12 (by decide) (X.2.2.2.1 (.fieldLink RX12 211 "SilkMillModel" "taped" "I") (by decide +kernel)) rfl (gv_1228 _ _) dX12_feed_80 ?_
            refine lv_iload X.1 X.2.1 dX12_feed_83 (lv_at hl 0 rfl) ?_
            refine lv_bipush (v := 24) X.1 X.2.1 dX12_feed_85 (by decide) ?_
            refine lv_bipush (v := 8) X.1 X.2.1 dX12_feed_87 (by decide) ?_
            refine lv_iload X.1 X.2.1 dX12_feed_89 (lv_at hl 1 rfl) ?_
            refine lv_iconst (v := 4) X.1 X.2.1 dX12_feed_91 (by decide) ?_
            refine lv_irem X.1 X.2.1 dX12_feed_92 (by decide) ?_
            refine lv_topi (fun v_154 ev_154 => ?_)
            have z_155 : v_154.toInt = i6_14_z % 4 := z_rem ev_154 hz_i6_14 ti_4 (by omega) (by omega)
            have z_156 : 0 ≤ v_154.toInt ∧ v_154.toInt < 4 := by rw [z_155]; exact ⟨Int.emod_nonneg _ (by omega), Int.emod_lt_of_pos _ (by omega)⟩
            refine lv_imul X.1 X.2.1 dX12_feed_93 ?_
            refine lv_topi (fun v_157 ev_157 => ?_)
            have z_158 : v_157.toInt = 8 * (i6_14_z % 4) := z_mul ev_157 ti_8 z_155 (by omega) (by omega)
            refine lv_isub X.1 X.2.1 dX12_feed_94 ?_
            refine lv_topi (fun v_159 ev_159 => ?_)
            have z_160 : v_159.toInt = 24 - (8 * (i6_14_z % 4)) := z_sub ev_159 ti_24 z_158 (by omega) (by omega)
            refine lv_ishr X.1 X.2.1 dX12_feed_95 ?_
            refine lv_topi (fun v_161 ev_161 => ?_)
            have rg_162 := And.intro (z_lo v_161) (z_hi v_161)
            refine lv_i2b X.1 X.2.1 dX12_feed_96 rfl ?_
            refine lv_topi (fun v_163 ev_163 => ?_)
            have rg_164 := And.intro (z_lo v_163) (z_hi v_163)
            refine r_bast X hw h_152 rfl (by rw [h_153]; exact z_ix rfl (by omega) (by omega)) dX12_feed_97 (fun H locs hw => ?_)
            obtain ⟨S_165, eS_165⟩ : ∃ T, T = sA T_15 q_150 (upd (pA T_15 q_150) (Int32.toNatClampNeg (v_20)) (vp_nar .byte (v_163))) := ⟨_, rfl⟩
            rw [← eS_165] at hw
            have hO_166 : Ok MT S S_165 := hO_T_15.sA eS_165 h_152 (by decide +kernel) (uA_753 hO_T_15.1 h_152 (nar_b _).1 (nar_b _).2)
            have t_167 : pR S_165 1227 x = some q_150 := tR_sA eS_165 h_151
            have t_168 : pR T_15 1227 x = some q_150 := by have h := t_167; rw [eS_165, pR_sA] at h; exact h
            have bv_169 : v_163.toInt = sgb a2_z (((i6_14_z).toNat % 4 : Nat) : Int) := by rw [z_i2b ev_163, b_ishv (r := (((i6_14_z).toNat % 4 : Nat) : Int)) ev_161 (by rw [z_160]; omega) (by omega) (by omega), hz_a2]
            have bn_170 : (vp_nar .byte (v_163)).toInt = sgb a2_z (((i6_14_z).toNat % 4 : Nat) : Int) := z_narb bv_169 (sgb_rng _ _).1 (sgb_rng _ _).2
            have bz_171 : ∀ j, zA S_165 x 1227 j = if j = (pI S 1228 x).toInt.toNat + (i6_14_z).toNat then sgb a2_z (((i6_14_z).toNat % 4 : Nat) : Int) else zA T_15 x 1227 j := by have h := zA_sAs eS_165 t_168 bn_170; rw [z_nc rfl (by omega), show (v_20.toInt).toNat = (pI S 1228 x).toInt.toNat + (i6_14_z).toNat by omega] at h; exact h
            refine lv_aload_n X.1 X.2.1 dX12_feed_98 rfl (lv_at hl 2 rfl) ?_
            refine lv_dup X.1 X.2.1 dX12_feed_99 rfl ?_
            have t_172 : At S_165 x 12 := tAt_sA eS_165 ha_x_L_16
            have t_173 : pI S_165 1228 x = v_20 := tI_sA eS_165 ev_20
            refine r_getI (g := 1228) (x := v_20) X hw t_172 rfl 28 t_173 (by decide) rfl inn_X12_feed_12 (by decide) (X.2.2.2.1 (.fieldLink RX12 211 "SilkMillModel" "taped" "I") (by decide +kernel)) rfl (gv_1228 _ _) dX12_feed_100 ?_
            refine lv_iconst (v := 1) X.1 X.2.1 dX12_feed_103 (by decide) ?_
            refine lv_iadd X.1 X.2.1 dX12_feed_104 ?_
            refine lv_topi (fun v_174 ev_174 => ?_)
            have z_175 : v_174.toInt = v_20.toInt + 1 := z_add ev_174 rfl ti_1 (by omega) (by omega)
            refine r_putI (v := v_174) X hw t_172 rfl 28 1228 tyX12 (by decide) rfl inn_X12_feed_12 tyX12_ok nmX12 (by decide) (X.2.2.2.1 (.fieldLink RX12 211 "SilkMillModel" "taped" "I") (by decide +kernel)) rfl (Or.inl rfl) rfl rfl (Nat.le_of_ble_eq_true rfl) (st_1228 _ _) dX12_feed_105 (fun H locs hw => ?_)
            obtain ⟨S_176, eS_176⟩ : ∃ T, T = sI S_165 1228 x (v_174) := ⟨_, rfl⟩
            rw [← eS_176] at hw
            have hO_177 : Ok MT S S_176 := hO_166.sI eS_176 (by decide +kernel) (uI_12_1228 hO_166.1 t_172 (by omega) (by omega))
            have h_178 : pI S_176 1228 x = v_174 := tI_sIs eS_176
            obtain ⟨x_179, ex_179⟩ : ∃ y : Int32, y = i6_14 + 1 := ⟨_, rfl⟩
            have z_180 : x_179.toInt = i6_14_z + 1 := z_add ex_179 hz_i6_14 ti_1 (by omega) (by omega)
            refine lv_iinc (v := x_179) (lv' := [(6, .int (x_179)), (7, .int (a2)), (0, .ref x), (1, .int (a1)), (2, .int (a2)), (3, .int (a3)), (4, .int (a4)), (5, .int (a5))]) X.1 X.2.1 dX12_feed_108 hl (k := 1) rfl (by rw [ex_179]; rfl) (by decide) rfl (fun ls hl => ?_)
            refine lv_goto (tgt := 20) X.1 X.2.1 dX12_feed_111 (by decide) ?_
            have pz_181 : (pI S_176 1228 x).toInt = (v_20.toInt + 1) := (congrArg Int32.toInt h_178).trans z_175
            have t_182 : At S_176 x 12 := tAt_sI eS_176 t_172
            have zc_183 : zA S_176 x 1227 = zA S_165 x 1227 := zA_sI eS_176
            exact ih_L_13 _ (by omega) _ _ _ _ (x_179) (x_179.toInt) rfl hw rfl (by omega) t_182 hO_177 (by omega) (by funext j; rw [zc_183, bz_171 j, iv_18, show (x_179.toInt).toNat = (i6_14_z).toNat + 1 by omega]; exact fdP_put (by rw [show (i6_14_z).toNat / 4 = 1 by omega, sel_1]) j) (lv_sub hl [0, 2, 3, 4, 5, 6, 7] rfl)
        · have z_b_184 := trivial
          have k_185 : i6_14_z < 4 := z_nle ti_4 hz_i6_14 c_30
          refine lv_iload_n X.1 X.2.1 dX12_feed_33 rfl (lv_at hl 2 rfl) ?_
          refine lv_goto (tgt := 73) X.1 X.2.1 dX12_feed_34 (by decide) ?_
          refine lv_istore (lv' := [(7, .int (a1)), (6, .int (i6_14)), (0, .ref x), (1, .int (a1)), (2, .int (a2)), (3, .int (a3)), (4, .int (a4)), (5, .int (a5))]) X.1 X.2.1 dX12_feed_73 hl (by decide) rfl (fun ls hl => ?_)
          refine lv_aload_n X.1 X.2.1 dX12_feed_75 rfl (lv_at hl 2 rfl) ?_
          obtain ⟨q_186, h_187, h_188, h_189⟩ := gQ_12_1227 hO_T_15.1 ha_x_L_16
          refine r_getR (g := 1227) X hw ha_x_L_16 rfl 27 h_187 (by decide) rfl inn_X12_feed_12 (by decide) (X.2.2.2.1 (.fieldLink RX12 82 "SilkMillModel" "tape" "[B") (by decide +kernel)) rfl (gv_1227 _ _) dX12_feed_76 ?_
          refine lv_aload_n X.1 X.2.1 dX12_feed_79 rfl (lv_at hl 2 rfl) ?_
          refine r_getI (g := 1228) (x := v_20) X hw ha_x_L_16 rfl 28 ev_20 (by decide) rfl inn_X12_feed_12 (by decide) (X.2.2.2.1 (.fieldLink RX12 211 "SilkMillModel" "taped" "I") (by decide +kernel)) rfl (gv_1228 _ _) dX12_feed_80 ?_
          refine lv_iload X.1 X.2.1 dX12_feed_83 (lv_at hl 0 rfl) ?_
          refine lv_bipush (v := 24) X.1 X.2.1 dX12_feed_85 (by decide) ?_
          refine lv_bipush (v := 8) X.1 X.2.1 dX12_feed_87 (by decide) ?_
          refine lv_iload X.1 X.2.1 dX12_feed_89 (lv_at hl 1 rfl) ?_
          refine lv_iconst (v := 4) X.1 X.2.1 dX12_feed_91 (by decide) ?_
          refine lv_irem X.1 X.2.1 dX12_feed_92 (by decide) ?_
          refine lv_topi (fun v_190 ev_190 => ?_)
          have z_191 : v_190.toInt = i6_14_z % 4 := z_rem ev_190 hz_i6_14 ti_4 (by omega) (by omega)
          have z_192 : 0 ≤ v_190.toInt ∧ v_190.toInt < 4 := by rw [z_191]; exact ⟨Int.emod_nonneg _ (by omega), Int.emod_lt_of_pos _ (by omega)⟩
          refine lv_imul X.1 X.2.1 dX12_feed_93 ?_
          refine lv_topi (fun v_193 ev_193 => ?_)
          have z_194 : v_193.toInt = 8 * (i6_14_z % 4) := z_mul ev_193 ti_8 z_191 (by omega) (by omega)
          refine lv_isub X.1 X.2.1 dX12_feed_94 ?_
          refine lv_topi (fun v_195 ev_195 => ?_)
          have z_196 : v_195.toInt = 24 - (8 * (i6_14_z % 4)) := z_sub ev_195 ti_24 z_194 (by omega) (by omega)
          refine lv_ishr X.1 X.2.1 dX12_feed_95 ?_
          refine lv_topi (fun v_197 ev_197 => ?_)
          have rg_198 := And.intro (z_lo v_197) (z_hi v_197)
          refine lv_i2b X.1 X.2.1 dX12_feed_96 rfl ?_
          refine lv_topi (fun v_199 ev_199 => ?_)
          have rg_200 := And.intro (z_lo v_199) (z_hi v_199)
          refine r_bast X hw h_188 rfl (by rw [h_189]; exact z_ix rfl (by omega) (by omega)) dX12_feed_97 (fun H locs hw => ?_)
          obtain ⟨S_201, eS_201⟩ : ∃ T, T = sA T_15 q_186 (upd (pA T_15 q_186) (Int32.toNatClampNeg (v_20)) (vp_nar .byte (v_199))) := ⟨_, rfl⟩
          rw [← eS_201] at hw
          have hO_202 : Ok MT S S_201 := hO_T_15.sA eS_201 h_188 (by decide +kernel) (uA_753 hO_T_15.1 h_188 (nar_b _).1 (nar_b _).2)
          have t_203 : pR S_201 1227 x = some q_186 := tR_sA eS_201 h_187
          have t_204 : pR T_15 1227 x = some q_186 := by have h := t_203; rw [eS_201, pR_sA] at h; exact h
          have bv_205 : v_199.toInt = sgb a1_z (((i6_14_z).toNat % 4 : Nat) : Int) := by rw [z_i2b ev_199, b_ishv (r := (((i6_14_z).toNat % 4 : Nat) : Int)) ev_197 (by rw [z_196]; omega) (by omega) (by omega), hz_a1]
          have bn_206 : (vp_nar .byte (v_199)).toInt = sgb a1_z (((i6_14_z).toNat % 4 : Nat) : Int) := z_narb bv_205 (sgb_rng _ _).1 (sgb_rng _ _).2
          have bz_207 : ∀ j, zA S_201 x 1227 j = if j = (pI S 1228 x).toInt.toNat + (i6_14_z).toNat then sgb a1_z (((i6_14_z).toNat % 4 : Nat) : Int) else zA T_15 x 1227 j := by have h := zA_sAs eS_201 t_204 bn_206; rw [z_nc rfl (by omega), show (v_20.toInt).toNat = (pI S 1228 x).toInt.toNat + (i6_14_z).toNat by omega] at h; exact h
          refine lv_aload_n X.1 X.2.1 dX12_feed_98 rfl (lv_at hl 2 rfl) ?_
          refine lv_dup X.1 X.2.1 dX12_feed_99 rfl ?_
          have t_208 : At S_201 x 12 := tAt_sA eS_201 ha_x_L_16
          have t_209 : pI S_201 1228 x = v_20 := tI_sA eS_201 ev_20
          refine r_getI (g := 1228) (x := v_20) X hw t_208 rfl 28 t_209 (by decide) rfl inn_X12_feed_12 (by decide) (X.2.2.2.1 (.fieldLink RX12 211 "SilkMillModel" "taped" "I") (by decide +kernel)) rfl (gv_1228 _ _) dX12_feed_100 ?_
          refine lv_iconst (v := 1) X.1 X.2.1 dX12_feed_103 (by decide) ?_
          refine lv_iadd X.1 X.2.1 dX12_feed_104 ?_
          refine lv_topi (fun v_210 ev_210 => ?_)
          have z_211 : v_210.toInt = v_20.toInt + 1 := z_add ev_210 rfl ti_1 (by omega) (by omega)
          refine r_putI (v := v_210) X hw t_208 rfl 28 1228 tyX12 (by decide) rfl inn_X12_feed_12 tyX12_ok nmX12 (by decide) (X.2.2.2.1 (.fieldLink RX12 211 "SilkMillModel" "taped" "I") (by decide +kernel)) rfl (Or.inl rfl) rfl rfl (Nat.le_of_ble_eq_true rfl) (st_1228 _ _) dX12_feed_105 (fun H locs hw => ?_)
          obtain ⟨S_212, eS_212⟩ : ∃ T, T = sI S_201 1228 x (v_210) := ⟨_, rfl⟩
          rw [← eS_212] at hw
          have hO_213 : Ok MT S S_212 := hO_202.sI eS_212 (by decide +kernel) (uI_12_1228 hO_202.1 t_208 (by omega) (by omega))
          have h_214 : pI S_212 1228 x = v_210 := tI_sIs eS_212
          obtain ⟨x_215, ex_215⟩ : ∃ y : Int32, y = i6_14 + 1 := ⟨_, rfl⟩
          have z_216 : x_215.toInt = i6_14_z + 1 := z_add ex_215 hz_i6_14 ti_1 (by omega) (by omega)
          refine lv_iinc (v := x_215) (lv' := [(6, .int (x_215)), (7, .int (a1)), (0, .ref x), (1, .int (a1)), (2, .int (a2)), (3, .int (a3)), (4, .int (a4)), (5, .int (a5))]) X.1 X.2.1 dX12_feed_108 hl (k := 1) rfl (by rw [ex_215]; rfl) (by decide) rfl (fun ls hl => ?_)
          refine lv_goto (tgt := 20) X.1 X.2.1 dX12_feed_111 (by decide) ?_
          have pz_217 : (pI S_212 1228 x).toInt = (v_20.toInt + 1) := (congrArg Int32.toInt h_214).trans z_211
          have t_218 : At S_212 x 12 := tAt_sI eS_212 t_208
          have zc_219 : zA S_212 x 1227 = zA S_201 x 1227 := zA_sI eS_212
          exact ih_L_13 _ (by omega) _ _ _ _ (x_215) (x_215.toInt) rfl hw rfl (by omega) t_218 hO_213 (by omega) (by funext j; rw [zc_219, bz_207 j, iv_18, show (x_215.toInt).toNat = (i6_14_z).toNat + 1 by omega]; exact fdP_put (by rw [show (i6_14_z).toNat / 4 = 0 by omega, sel_0]) j) (lv_sub hl [0, 2, 3, 4, 5, 6, 7] rfl)
    have pz_220 : (pI S_5 1228 x).toInt = v_1.toInt := (congrArg Int32.toInt t_9).trans rfl
    have zc_221 : zA S_5 x 1227 = zA S x 1227 := zA_sI eS_5
    exact L_13 _ _ _ _ _ (0) (0) rfl hw ti_0 (by omega) t_8 hO_6 (by omega) (by rw [show (0 : Int).toNat = 0 from rfl, fdP_0]; exact zc_221) (lv_sub hl [0, 1, 2, 3, 4, 5, 6] rfl)
  · have z_b_222 := trivial
    have k_223 : v_1.toInt > 380 := z_nle rfl ti_380 c_10
    refine lv_iconst (v := (-1)) X.1 X.2.1 dX12_feed_15 (by decide) ?_
    have pz_224 : (pI S_5 1228 x).toInt = v_1.toInt := (congrArg Int32.toInt t_9).trans rfl
    have zc_225 : zA S_5 x 1227 = zA S x 1227 := zA_sI eS_5
    rw [hQQ]
    exact ret_i X hw hr hlocks (Nat.le_of_ble_eq_true rfl) (Nat.le_of_ble_eq_true rfl) ⟨hO_6, ⟨z_lo _, z_hi _, by have hzr := ti_m1; omega, fun h => by exfalso; omega, fun _ => zc_225⟩⟩ dX12_feed_16

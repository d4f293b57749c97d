/-! ===== the reference's constructor: its rows, all at once ===== -/
def Fz (S : PS) (x : Nat) (L : List (Nat × Nat × Nat × Nat)) : Prop := ∀ t ∈ L, pR S t.1 x = some t.2.1 ∧ At S t.2.1 t.2.2.1 ∧ pN S t.2.1 = t.2.2.2 ∧ pA S t.2.1 = fun _ => 0
def Fe (S : PS) (x : Nat) (L : List (Nat × Nat × Nat × Nat)) : Prop := ∀ t ∈ L, pR S t.1 x = some t.2.1 ∧ At S t.2.1 t.2.2.1 ∧ pN S t.2.1 = t.2.2.2
def Zi (S : PS) (x : Nat) : Prop := ∀ g, Nat.beq g 1229 = false → pI S g x = 0
theorem not_in {L : List (Nat × Nat × Nat × Nat)} {g : Nat} (hg : (L.map (fun t => t.1)).contains g = false) {t : Nat × Nat × Nat × Nat} (ht : t ∈ L) : t.1 ≠ g := fun e => by
  rw [List.contains_iff_mem.mpr (e ▸ List.mem_map_of_mem ht)] at hg
  cases hg
theorem not_kd {L : List (Nat × Nat × Nat × Nat)} {g : Nat} (hg : (L.map (fun t => t.2.2.1)).contains g = false) {t : Nat × Nat × Nat × Nat} (ht : t ∈ L) : t.2.2.1 ≠ g := fun e => by
  rw [List.contains_iff_mem.mpr (e ▸ List.mem_map_of_mem (f := fun t => t.2.2.1) ht)] at hg
  cases hg
theorem Fz_sN {S S1 : PS} {x q k n : Nat} {L : List (Nat × Nat × Nat × Nat)} (h : Fz S x L) (hq : q ∉ pL S) (e : S1 = sN S q k n) : Fz S1 x L := fun t ht => by
  obtain ⟨a, b, c, d⟩ := h t ht
  have ne := ne_of_new hq b.1
  subst e
  exact ⟨by rw [pR_sN]; exact a, At_sN b hq, (pN_sN_ne ne).trans c, (pA_sN_ne ne).trans d⟩
theorem Fe_sN {S S1 : PS} {x q k n : Nat} {L : List (Nat × Nat × Nat × Nat)} (h : Fe S x L) (hq : q ∉ pL S) (e : S1 = sN S q k n) : Fe S1 x L := fun t ht => by
  obtain ⟨a, b, c⟩ := h t ht
  have ne := ne_of_new hq b.1
  subst e
  exact ⟨by rw [pR_sN]; exact a, At_sN b hq, (pN_sN_ne ne).trans c⟩
theorem Fz_sI {S S1 : PS} {x g b : Nat} {v : Int32} {L : List (Nat × Nat × Nat × Nat)} (h : Fz S x L) (e : S1 = sI S g b v) : Fz S1 x L := by
  subst e; exact h
theorem Fe_sI {S S1 : PS} {x g b : Nat} {v : Int32} {L : List (Nat × Nat × Nat × Nat)} (h : Fe S x L) (e : S1 = sI S g b v) : Fe S1 x L := by
  subst e; exact h
theorem Fe_sA {S S1 : PS} {x b : Nat} {f : Nat → Int32} {L : List (Nat × Nat × Nat × Nat)} (h : Fe S x L) (e : S1 = sA S b f) : Fe S1 x L := by
  subst e; exact h
theorem Fz_sA {S S1 : PS} {x b k : Nat} {f : Nat → Int32} {L : List (Nat × Nat × Nat × Nat)} (h : Fz S x L) (hb : At S b k) (e : S1 = sA S b f) (hk : (L.map (fun t => t.2.2.1)).contains k = false) : Fz S1 x L := fun t ht => by
  obtain ⟨a, b', c, d⟩ := h t ht
  have ne := not_kd hk ht
  subst e
  exact ⟨by rw [pR_sA]; exact a, b', c, (pA_sA_ne (fun z => ne (by rw [← b'.2, ← hb.2, z]))).trans d⟩
theorem Fz_sR {S S1 : PS} {x g : Nat} {v : Option Nat} {L : List (Nat × Nat × Nat × Nat)} (h : Fz S x L) (e : S1 = sR S g x v) (hg : (L.map (fun t => t.1)).contains g = false) : Fz S1 x L := fun t ht => by
  obtain ⟨a, b, c, d⟩ := h t ht
  have ne := not_in hg ht
  subst e
  exact ⟨(pR_sR_nf ne).trans a, b, c, d⟩
theorem Fe_sR {S S1 : PS} {x g : Nat} {v : Option Nat} {L : List (Nat × Nat × Nat × Nat)} (h : Fe S x L) (e : S1 = sR S g x v) (hg : (L.map (fun t => t.1)).contains g = false) : Fe S1 x L := fun t ht => by
  obtain ⟨a, b, c⟩ := h t ht
  have ne := not_in hg ht
  subst e
  exact ⟨(pR_sR_nf ne).trans a, b, c⟩
theorem Fz_add {S S1 : PS} {x g q k n : Nat} {L : List (Nat × Nat × Nat × Nat)} (h : Fz S x L) (e : S1 = sR S g x (some q)) (hq : At S q k) (hn : pN S q = n) (hz : pA S q = fun _ => 0) (hg : (L.map (fun t => t.1)).contains g = false) : Fz S1 x ((g, q, k, n) :: L) := fun t ht => by
  cases ht with
  | head => subst e; exact ⟨pR_sR_same, hq, hn, hz⟩
  | tail _ h' => exact Fz_sR h e hg t h'
theorem Fe_add {S S1 : PS} {x g q k n : Nat} {L : List (Nat × Nat × Nat × Nat)} (h : Fe S x L) (e : S1 = sR S g x (some q)) (hq : At S q k) (hn : pN S q = n) (hg : (L.map (fun t => t.1)).contains g = false) : Fe S1 x ((g, q, k, n) :: L) := fun t ht => by
  cases ht with
  | head => subst e; exact ⟨pR_sR_same, hq, hn⟩
  | tail _ h' => exact Fe_sR h e hg t h'
theorem Zi_sN {S S1 : PS} {x q k n : Nat} (h : Zi S x) (e : S1 = sN S q k n) : Zi S1 x := by subst e; exact h
theorem Zi_sR {S S1 : PS} {x g b : Nat} {v : Option Nat} (h : Zi S x) (e : S1 = sR S g b v) : Zi S1 x := by subst e; exact h
theorem Zi_sA {S S1 : PS} {x b : Nat} {f : Nat → Int32} (h : Zi S x) (e : S1 = sA S b f) : Zi S1 x := by subst e; exact h
theorem Zi_sI {S S1 : PS} {x b : Nat} {v : Int32} (h : Zi S x) (e : S1 = sI S 1229 b v) : Zi S1 x := fun g hg => by
  subst e; rw [pI_sI_nf (Nat.ne_of_beq_eq_false hg)]; exact h g hg
theorem Fz_A {S : PS} {x g q k n k0 : Nat} {L : List (Nat × Nat × Nat × Nat)} (h : Fz S x L) (hm : (g, q, k, n) ∈ L) (hx : At S x k0) (hk : k ≠ k0) : ∃ c, pR (sK S x 12) g x = some c ∧ At (sK S x 12) c k ∧ pN (sK S x 12) c = n := by
  obtain ⟨a, b, c, -⟩ := h _ hm
  exact ⟨q, by rw [pR_sK]; exact a, At_sK hx b hk, by rw [pN_sK]; exact c⟩
theorem Fe_A {S : PS} {x g q k n k0 : Nat} {L : List (Nat × Nat × Nat × Nat)} (h : Fe S x L) (hm : (g, q, k, n) ∈ L) (hx : At S x k0) (hk : k ≠ k0) : ∃ c, pR (sK S x 12) g x = some c ∧ At (sK S x 12) c k ∧ pN (sK S x 12) c = n := by
  obtain ⟨a, b, c⟩ := h _ hm
  exact ⟨q, by rw [pR_sK]; exact a, At_sK hx b hk, by rw [pN_sK]; exact c⟩
theorem Zi_I {S : PS} {x g : Nat} {lo hi : Int} (h : Zi S x) (hg : Nat.beq g 1229 = false) (h1 : lo ≤ 0) (h2 : 0 ≤ hi) : lo ≤ (pI (sK S x 12) g x).toInt ∧ (pI (sK S x 12) g x).toInt ≤ hi := by
  rw [pI_sK, h g hg]
  exact ⟨h1, h2⟩
theorem pA_sK {S : PS} {q k : Nat} : pA (sK S q k) = pA S := rfl
theorem Fz_z {S : PS} {x g q k n : Nat} {L : List (Nat × Nat × Nat × Nat)} (h : Fz S x L) (hm : (g, q, k, n) ∈ L) : ∀ i, zA (sK S x 12) x g i = 0 := fun i => by
  obtain ⟨a, b, c, d⟩ := h _ hm
  rw [zA_eq, mA_eq (show pR (sK S x 12) g x = some q by rw [pR_sK]; exact a), pA_sK, d]
  rfl
theorem MI_0 {S : PS} {x : Nat} (h1 : pI S 1201 x = 0) (h2 : pI S 1238 x = 0) (h07 : ∀ i, zA S x 1207 i = 0) (h08 : ∀ i, zA S x 1208 i = 0) (h19 : ∀ i, zA S x 1219 i = 0) (h36 : ∀ i, zA S x 1236 i = 0) (h39 : ∀ i, zA S x 1239 i = 0) (h53 : ∀ i, zA S x 1253 i = 0) : MI S x := by
  unfold MI MIe
  rw [h1, h2]
  refine ⟨fun c hc => ⟨fun _ => ⟨h08 c, h07 c⟩, fun z => ?_⟩, fun r k hr hk => ?_, fun r k k' hr hkk hk => ?_, ⟨fun p hp => ?_, fun r hr => ?_⟩, ⟨fun k hk z => absurd (h53 k) z, fun k k' hk hk' hkk z => absurd (h53 k) z⟩, fun j hj => Or.inl ?_, h39 0, fun k hk => ?_⟩
  · have : (0 : Int32).toInt = 0 := by decide
    rw [this] at z; omega
  · rw [h19] at hk; omega
  · rw [h19] at hk; omega
  · rw [h19]; omega
  · rw [h19]; omega
  · rw [h36]; omega
  · have : (0 : Int32).toInt = 0 := by decide
    rw [this] at hk; omega
theorem GR_0 {S : PS} {x : Nat} (h : ∀ i, zA S x 1237 i = 0) : GR S x := fun p _ => by rw [h]; omega
theorem thin_all : (upd (upd (upd (upd (upd (upd (upd (upd (fun _ => (0 : Int32)) (Int32.toNatClampNeg 0) 100) (Int32.toNatClampNeg 1) 104) (Int32.toNatClampNeg 2) 102) (Int32.toNatClampNeg 3) 97) (Int32.toNatClampNeg 4) 90) (Int32.toNatClampNeg 5) 81) (Int32.toNatClampNeg 6) 70) (Int32.toNatClampNeg 7) 58) = thinF := by
  rw [show Int32.toNatClampNeg 0 = 0 by decide, show Int32.toNatClampNeg 1 = 1 by decide, show Int32.toNatClampNeg 2 = 2 by decide, show Int32.toNatClampNeg 3 = 3 by decide, show Int32.toNatClampNeg 4 = 4 by decide, show Int32.toNatClampNeg 5 = 5 by decide, show Int32.toNatClampNeg 6 = 6 by decide, show Int32.toNatClampNeg 7 = 7 by decide]
  funext j
  by_cases h7 : j = 7
  · rw [h7, upd_s]; rfl
  rw [upd_n h7]
  by_cases h6 : j = 6
  · rw [h6, upd_s]; rfl
  rw [upd_n h6]
  by_cases h5 : j = 5
  · rw [h5, upd_s]; rfl
  rw [upd_n h5]
  by_cases h4 : j = 4
  · rw [h4, upd_s]; rfl
  rw [upd_n h4]
  by_cases h3 : j = 3
  · rw [h3, upd_s]; rfl
  rw [upd_n h3]
  by_cases h2 : j = 2
  · rw [h2, upd_s]; rfl
  rw [upd_n h2]
  by_cases h1 : j = 1
  · rw [h1, upd_s]; rfl
  rw [upd_n h1]
  by_cases h0 : j = 0
  · rw [h0, upd_s]; rfl
  rw [upd_n h0]
  obtain ⟨k, rfl⟩ : ∃ k, j = k + 8 := ⟨j - 8, by omega⟩
  rfl
theorem dX12_init_0 : decode cX12_init 0 = .ok (.aload_n 0, 1) := by decide +kernel
theorem dX12_init_1 : decode cX12_init 1 = .ok (.invokespecial 1, 3) := by decide +kernel
theorem dX12_init_4 : decode cX12_init 4 = .ok (.aload_n 0, 1) := by decide +kernel
theorem dX12_init_5 : decode cX12_init 5 = .ok (.bipush 10, 2) := by decide +kernel
theorem dX12_init_7 : decode cX12_init 7 = .ok (.newarray .int, 2) := by decide +kernel
theorem dX12_init_9 : decode cX12_init 9 = .ok (.putfield 7, 3) := by decide +kernel
theorem dX12_init_12 : decode cX12_init 12 = .ok (.aload_n 0, 1) := by decide +kernel
theorem dX12_init_13 : decode cX12_init 13 = .ok (.bipush 10, 2) := by decide +kernel
theorem dX12_init_15 : decode cX12_init 15 = .ok (.newarray .int, 2) := by decide +kernel
theorem dX12_init_17 : decode cX12_init 17 = .ok (.putfield 13, 3) := by decide +kernel
theorem dX12_init_20 : decode cX12_init 20 = .ok (.aload_n 0, 1) := by decide +kernel
theorem dX12_init_21 : decode cX12_init 21 = .ok (.bipush 10, 2) := by decide +kernel
theorem dX12_init_23 : decode cX12_init 23 = .ok (.newarray .int, 2) := by decide +kernel
theorem dX12_init_25 : decode cX12_init 25 = .ok (.putfield 16, 3) := by decide +kernel
theorem dX12_init_28 : decode cX12_init 28 = .ok (.aload_n 0, 1) := by decide +kernel
theorem dX12_init_29 : decode cX12_init 29 = .ok (.bipush 10, 2) := by decide +kernel
theorem dX12_init_31 : decode cX12_init 31 = .ok (.newarray .int, 2) := by decide +kernel
theorem dX12_init_33 : decode cX12_init 33 = .ok (.putfield 19, 3) := by decide +kernel
theorem dX12_init_36 : decode cX12_init 36 = .ok (.aload_n 0, 1) := by decide +kernel
theorem dX12_init_37 : decode cX12_init 37 = .ok (.bipush 10, 2) := by decide +kernel
theorem dX12_init_39 : decode cX12_init 39 = .ok (.newarray .int, 2) := by decide +kernel
theorem dX12_init_41 : decode cX12_init 41 = .ok (.putfield 22, 3) := by decide +kernel
theorem dX12_init_44 : decode cX12_init 44 = .ok (.aload_n 0, 1) := by decide +kernel
theorem dX12_init_45 : decode cX12_init 45 = .ok (.sipush 600, 3) := by decide +kernel
theorem dX12_init_48 : decode cX12_init 48 = .ok (.newarray .int, 2) := by decide +kernel
theorem dX12_init_50 : decode cX12_init 50 = .ok (.putfield 25, 3) := by decide +kernel
theorem dX12_init_53 : decode cX12_init 53 = .ok (.aload_n 0, 1) := by decide +kernel
theorem dX12_init_54 : decode cX12_init 54 = .ok (.sipush 600, 3) := by decide +kernel
theorem dX12_init_57 : decode cX12_init 57 = .ok (.newarray .int, 2) := by decide +kernel
theorem dX12_init_59 : decode cX12_init 59 = .ok (.putfield 28, 3) := by decide +kernel
theorem dX12_init_62 : decode cX12_init 62 = .ok (.aload_n 0, 1) := by decide +kernel
theorem dX12_init_63 : decode cX12_init 63 = .ok (.sipush 600, 3) := by decide +kernel
theorem dX12_init_66 : decode cX12_init 66 = .ok (.newarray .int, 2) := by decide +kernel
theorem dX12_init_68 : decode cX12_init 68 = .ok (.putfield 31, 3) := by decide +kernel
theorem dX12_init_71 : decode cX12_init 71 = .ok (.aload_n 0, 1) := by decide +kernel
theorem dX12_init_72 : decode cX12_init 72 = .ok (.bipush 8, 2) := by decide +kernel
theorem dX12_init_74 : decode cX12_init 74 = .ok (.newarray .int, 2) := by decide +kernel
theorem dX12_init_76 : decode cX12_init 76 = .ok (.dup, 1) := by decide +kernel
theorem dX12_init_77 : decode cX12_init 77 = .ok (.iconst 0, 1) := by decide +kernel
theorem dX12_init_78 : decode cX12_init 78 = .ok (.bipush 100, 2) := by decide +kernel
theorem dX12_init_80 : decode cX12_init 80 = .ok (.iastore, 1) := by decide +kernel
theorem dX12_init_81 : decode cX12_init 81 = .ok (.dup, 1) := by decide +kernel
theorem dX12_init_82 : decode cX12_init 82 = .ok (.iconst 1, 1) := by decide +kernel
theorem dX12_init_83 : decode cX12_init 83 = .ok (.bipush 104, 2) := by decide +kernel
theorem dX12_init_85 : decode cX12_init 85 = .ok (.iastore, 1) := by decide +kernel
theorem dX12_init_86 : decode cX12_init 86 = .ok (.dup, 1) := by decide +kernel
theorem dX12_init_87 : decode cX12_init 87 = .ok (.iconst 2, 1) := by decide +kernel
theorem dX12_init_88 : decode cX12_init 88 = .ok (.bipush 102, 2) := by decide +kernel
theorem dX12_init_90 : decode cX12_init 90 = .ok (.iastore, 1) := by decide +kernel
theorem dX12_init_91 : decode cX12_init 91 = .ok (.dup, 1) := by decide +kernel
theorem dX12_init_92 : decode cX12_init 92 = .ok (.iconst 3, 1) := by decide +kernel
theorem dX12_init_93 : decode cX12_init 93 = .ok (.bipush 97, 2) := by decide +kernel
theorem dX12_init_95 : decode cX12_init 95 = .ok (.iastore, 1) := by decide +kernel
theorem dX12_init_96 : decode cX12_init 96 = .ok (.dup, 1) := by decide +kernel
theorem dX12_init_97 : decode cX12_init 97 = .ok (.iconst 4, 1) := by decide +kernel
theorem dX12_init_98 : decode cX12_init 98 = .ok (.bipush 90, 2) := by decide +kernel
theorem dX12_init_100 : decode cX12_init 100 = .ok (.iastore, 1) := by decide +kernel
theorem dX12_init_101 : decode cX12_init 101 = .ok (.dup, 1) := by decide +kernel
theorem dX12_init_102 : decode cX12_init 102 = .ok (.iconst 5, 1) := by decide +kernel
theorem dX12_init_103 : decode cX12_init 103 = .ok (.bipush 81, 2) := by decide +kernel
theorem dX12_init_105 : decode cX12_init 105 = .ok (.iastore, 1) := by decide +kernel
theorem dX12_init_106 : decode cX12_init 106 = .ok (.dup, 1) := by decide +kernel
theorem dX12_init_107 : decode cX12_init 107 = .ok (.bipush 6, 2) := by decide +kernel
theorem dX12_init_109 : decode cX12_init 109 = .ok (.bipush 70, 2) := by decide +kernel
theorem dX12_init_111 : decode cX12_init 111 = .ok (.iastore, 1) := by decide +kernel
theorem dX12_init_112 : decode cX12_init 112 = .ok (.dup, 1) := by decide +kernel
theorem dX12_init_113 : decode cX12_init 113 = .ok (.bipush 7, 2) := by decide +kernel
theorem dX12_init_115 : decode cX12_init 115 = .ok (.bipush 58, 2) := by decide +kernel
theorem dX12_init_117 : decode cX12_init 117 = .ok (.iastore, 1) := by decide +kernel
theorem dX12_init_118 : decode cX12_init 118 = .ok (.putfield 34, 3) := by decide +kernel
theorem dX12_init_121 : decode cX12_init 121 = .ok (.aload_n 0, 1) := by decide +kernel
theorem dX12_init_122 : decode cX12_init 122 = .ok (.iconst 4, 1) := by decide +kernel
theorem dX12_init_123 : decode cX12_init 123 = .ok (.newarray .int, 2) := by decide +kernel
theorem dX12_init_125 : decode cX12_init 125 = .ok (.putfield 37, 3) := by decide +kernel
theorem dX12_init_128 : decode cX12_init 128 = .ok (.aload_n 0, 1) := by decide +kernel
theorem dX12_init_129 : decode cX12_init 129 = .ok (.iconst 4, 1) := by decide +kernel
theorem dX12_init_130 : decode cX12_init 130 = .ok (.newarray .int, 2) := by decide +kernel
theorem dX12_init_132 : decode cX12_init 132 = .ok (.putfield 40, 3) := by decide +kernel
theorem dX12_init_135 : decode cX12_init 135 = .ok (.aload_n 0, 1) := by decide +kernel
theorem dX12_init_136 : decode cX12_init 136 = .ok (.iconst 4, 1) := by decide +kernel
theorem dX12_init_137 : decode cX12_init 137 = .ok (.newarray .int, 2) := by decide +kernel
theorem dX12_init_139 : decode cX12_init 139 = .ok (.putfield 43, 3) := by decide +kernel
theorem dX12_init_142 : decode cX12_init 142 = .ok (.aload_n 0, 1) := by decide +kernel
theorem dX12_init_143 : decode cX12_init 143 = .ok (.iconst 4, 1) := by decide +kernel
theorem dX12_init_144 : decode cX12_init 144 = .ok (.newarray .int, 2) := by decide +kernel
theorem dX12_init_146 : decode cX12_init 146 = .ok (.putfield 46, 3) := by decide +kernel
theorem dX12_init_149 : decode cX12_init 149 = .ok (.aload_n 0, 1) := by decide +kernel
theorem dX12_init_150 : decode cX12_init 150 = .ok (.iconst 4, 1) := by decide +kernel
theorem dX12_init_151 : decode cX12_init 151 = .ok (.newarray .int, 2) := by decide +kernel
theorem dX12_init_153 : decode cX12_init 153 = .ok (.putfield 49, 3) := by decide +kernel
theorem dX12_init_156 : decode cX12_init 156 = .ok (.aload_n 0, 1) := by decide +kernel
theorem dX12_init_157 : decode cX12_init 157 = .ok (.iconst 4, 1) := by decide +kernel
theorem dX12_init_158 : decode cX12_init 158 = .ok (.newarray .int, 2) := by decide +kernel
theorem dX12_init_160 : decode cX12_init 160 = .ok (.putfield 52, 3) := by decide +kernel
theorem dX12_init_163 : decode cX12_init 163 = .ok (.aload_n 0, 1) := by decide +kernel
theorem dX12_init_164 : decode cX12_init 164 = .ok (.sipush 7200, 3) := by decide +kernel
theorem dX12_init_167 : decode cX12_init 167 = .ok (.newarray .int, 2) := by decide +kernel
theorem dX12_init_169 : decode cX12_init 169 = .ok (.putfield 55, 3) := by decide +kernel
theorem dX12_init_172 : decode cX12_init 172 = .ok (.aload_n 0, 1) := by decide +kernel
theorem dX12_init_173 : decode cX12_init 173 = .ok (.bipush 12, 2) := by decide +kernel
theorem dX12_init_175 : decode cX12_init 175 = .ok (.newarray .int, 2) := by decide +kernel
theorem dX12_init_177 : decode cX12_init 177 = .ok (.putfield 58, 3) := by decide +kernel
theorem dX12_init_180 : decode cX12_init 180 = .ok (.aload_n 0, 1) := by decide +kernel
theorem dX12_init_181 : decode cX12_init 181 = .ok (.iconst 5, 1) := by decide +kernel
theorem dX12_init_182 : decode cX12_init 182 = .ok (.newarray .int, 2) := by decide +kernel
theorem dX12_init_184 : decode cX12_init 184 = .ok (.putfield 61, 3) := by decide +kernel
theorem dX12_init_187 : decode cX12_init 187 = .ok (.aload_n 0, 1) := by decide +kernel
theorem dX12_init_188 : decode cX12_init 188 = .ok (.bipush 60, 2) := by decide +kernel
theorem dX12_init_190 : decode cX12_init 190 = .ok (.newarray .int, 2) := by decide +kernel
theorem dX12_init_192 : decode cX12_init 192 = .ok (.putfield 64, 3) := by decide +kernel
theorem dX12_init_195 : decode cX12_init 195 = .ok (.aload_n 0, 1) := by decide +kernel
theorem dX12_init_196 : decode cX12_init 196 = .ok (.bipush 60, 2) := by decide +kernel
theorem dX12_init_198 : decode cX12_init 198 = .ok (.newarray .int, 2) := by decide +kernel
theorem dX12_init_200 : decode cX12_init 200 = .ok (.putfield 67, 3) := by decide +kernel
theorem dX12_init_203 : decode cX12_init 203 = .ok (.aload_n 0, 1) := by decide +kernel
theorem dX12_init_204 : decode cX12_init 204 = .ok (.bipush 60, 2) := by decide +kernel
theorem dX12_init_206 : decode cX12_init 206 = .ok (.newarray .int, 2) := by decide +kernel
theorem dX12_init_208 : decode cX12_init 208 = .ok (.putfield 70, 3) := by decide +kernel
theorem dX12_init_211 : decode cX12_init 211 = .ok (.aload_n 0, 1) := by decide +kernel
theorem dX12_init_212 : decode cX12_init 212 = .ok (.sipush 240, 3) := by decide +kernel
theorem dX12_init_215 : decode cX12_init 215 = .ok (.newarray .int, 2) := by decide +kernel
theorem dX12_init_217 : decode cX12_init 217 = .ok (.putfield 73, 3) := by decide +kernel
theorem dX12_init_220 : decode cX12_init 220 = .ok (.aload_n 0, 1) := by decide +kernel
theorem dX12_init_221 : decode cX12_init 221 = .ok (.sipush 240, 3) := by decide +kernel
theorem dX12_init_224 : decode cX12_init 224 = .ok (.newarray .int, 2) := by decide +kernel
theorem dX12_init_226 : decode cX12_init 226 = .ok (.putfield 76, 3) := by decide +kernel
theorem dX12_init_229 : decode cX12_init 229 = .ok (.aload_n 0, 1) := by decide +kernel
theorem dX12_init_230 : decode cX12_init 230 = .ok (.sipush 240, 3) := by decide +kernel
theorem dX12_init_233 : decode cX12_init 233 = .ok (.newarray .int, 2) := by decide +kernel
theorem dX12_init_235 : decode cX12_init 235 = .ok (.putfield 79, 3) := by decide +kernel
theorem dX12_init_238 : decode cX12_init 238 = .ok (.aload_n 0, 1) := by decide +kernel
theorem dX12_init_239 : decode cX12_init 239 = .ok (.sipush 400, 3) := by decide +kernel
theorem dX12_init_242 : decode cX12_init 242 = .ok (.newarray .byte, 2) := by decide +kernel
theorem dX12_init_244 : decode cX12_init 244 = .ok (.putfield 82, 3) := by decide +kernel
theorem dX12_init_247 : decode cX12_init 247 = .ok (.aload_n 0, 1) := by decide +kernel
theorem dX12_init_248 : decode cX12_init 248 = .ok (.iconst (-1), 1) := by decide +kernel
theorem dX12_init_249 : decode cX12_init 249 = .ok (.putfield 86, 3) := by decide +kernel
theorem dX12_init_252 : decode cX12_init 252 = .ok (.aload_n 0, 1) := by decide +kernel
theorem dX12_init_253 : decode cX12_init 253 = .ok (.sipush 13200, 3) := by decide +kernel
theorem dX12_init_256 : decode cX12_init 256 = .ok (.newarray .int, 2) := by decide +kernel
theorem dX12_init_258 : decode cX12_init 258 = .ok (.putfield 90, 3) := by decide +kernel
theorem dX12_init_261 : decode cX12_init 261 = .ok (.aload_n 0, 1) := by decide +kernel
theorem dX12_init_262 : decode cX12_init 262 = .ok (.ldc 93, 2) := by decide +kernel
theorem dX12_init_264 : decode cX12_init 264 = .ok (.newarray .int, 2) := by decide +kernel
theorem dX12_init_266 : decode cX12_init 266 = .ok (.putfield 94, 3) := by decide +kernel
theorem dX12_init_269 : decode cX12_init 269 = .ok (.aload_n 0, 1) := by decide +kernel
theorem dX12_init_270 : decode cX12_init 270 = .ok (.iconst 4, 1) := by decide +kernel
theorem dX12_init_271 : decode cX12_init 271 = .ok (.newarray .int, 2) := by decide +kernel
theorem dX12_init_273 : decode cX12_init 273 = .ok (.putfield 97, 3) := by decide +kernel
theorem dX12_init_276 : decode cX12_init 276 = .ok (.aload_n 0, 1) := by decide +kernel
theorem dX12_init_277 : decode cX12_init 277 = .ok (.bipush 41, 2) := by decide +kernel
theorem dX12_init_279 : decode cX12_init 279 = .ok (.newarray .int, 2) := by decide +kernel
theorem dX12_init_281 : decode cX12_init 281 = .ok (.putfield 100, 3) := by decide +kernel
theorem dX12_init_284 : decode cX12_init 284 = .ok (.aload_n 0, 1) := by decide +kernel
theorem dX12_init_285 : decode cX12_init 285 = .ok (.bipush 40, 2) := by decide +kernel
theorem dX12_init_287 : decode cX12_init 287 = .ok (.newarray .int, 2) := by decide +kernel
theorem dX12_init_289 : decode cX12_init 289 = .ok (.putfield 103, 3) := by decide +kernel
theorem dX12_init_292 : decode cX12_init 292 = .ok (.aload_n 0, 1) := by decide +kernel
theorem dX12_init_293 : decode cX12_init 293 = .ok (.bipush 40, 2) := by decide +kernel
theorem dX12_init_295 : decode cX12_init 295 = .ok (.newarray .int, 2) := by decide +kernel
theorem dX12_init_297 : decode cX12_init 297 = .ok (.putfield 106, 3) := by decide +kernel
theorem dX12_init_300 : decode cX12_init 300 = .ok (.aload_n 0, 1) := by decide +kernel
theorem dX12_init_301 : decode cX12_init 301 = .ok (.bipush 40, 2) := by decide +kernel
theorem dX12_init_303 : decode cX12_init 303 = .ok (.newarray .int, 2) := by decide +kernel
theorem dX12_init_305 : decode cX12_init 305 = .ok (.putfield 109, 3) := by decide +kernel
theorem dX12_init_308 : decode cX12_init 308 = .ok (.aload_n 0, 1) := by decide +kernel
theorem dX12_init_309 : decode cX12_init 309 = .ok (.bipush 40, 2) := by decide +kernel
theorem dX12_init_311 : decode cX12_init 311 = .ok (.newarray .int, 2) := by decide +kernel
theorem dX12_init_313 : decode cX12_init 313 = .ok (.putfield 112, 3) := by decide +kernel
theorem dX12_init_316 : decode cX12_init 316 = .ok (.aload_n 0, 1) := by decide +kernel
theorem dX12_init_317 : decode cX12_init 317 = .ok (.bipush 40, 2) := by decide +kernel
theorem dX12_init_319 : decode cX12_init 319 = .ok (.newarray .boolean, 2) := by decide +kernel
theorem dX12_init_321 : decode cX12_init 321 = .ok (.putfield 115, 3) := by decide +kernel
theorem dX12_init_324 : decode cX12_init 324 = .ok (.aload_n 0, 1) := by decide +kernel
theorem dX12_init_325 : decode cX12_init 325 = .ok (.iconst 4, 1) := by decide +kernel
theorem dX12_init_326 : decode cX12_init 326 = .ok (.newarray .int, 2) := by decide +kernel
theorem dX12_init_328 : decode cX12_init 328 = .ok (.putfield 119, 3) := by decide +kernel
theorem dX12_init_331 : decode cX12_init 331 = .ok (.aload_n 0, 1) := by decide +kernel
theorem dX12_init_332 : decode cX12_init 332 = .ok (.iconst 5, 1) := by decide +kernel
theorem dX12_init_333 : decode cX12_init 333 = .ok (.newarray .int, 2) := by decide +kernel
theorem dX12_init_335 : decode cX12_init 335 = .ok (.putfield 122, 3) := by decide +kernel
theorem dX12_init_338 : decode cX12_init 338 = .ok (.aload_n 0, 1) := by decide +kernel
theorem dX12_init_339 : decode cX12_init 339 = .ok (.bipush 16, 2) := by decide +kernel
theorem dX12_init_341 : decode cX12_init 341 = .ok (.newarray .boolean, 2) := by decide +kernel
theorem dX12_init_343 : decode cX12_init 343 = .ok (.putfield 125, 3) := by decide +kernel
theorem dX12_init_346 : decode cX12_init 346 = .ok (.aload_n 0, 1) := by decide +kernel
theorem dX12_init_347 : decode cX12_init 347 = .ok (.bipush 16, 2) := by decide +kernel
theorem dX12_init_349 : decode cX12_init 349 = .ok (.newarray .int, 2) := by decide +kernel
theorem dX12_init_351 : decode cX12_init 351 = .ok (.putfield 128, 3) := by decide +kernel
theorem dX12_init_354 : decode cX12_init 354 = .ok (.aload_n 0, 1) := by decide +kernel
theorem dX12_init_355 : decode cX12_init 355 = .ok (.bipush 16, 2) := by decide +kernel
theorem dX12_init_357 : decode cX12_init 357 = .ok (.newarray .int, 2) := by decide +kernel
theorem dX12_init_359 : decode cX12_init 359 = .ok (.putfield 131, 3) := by decide +kernel
theorem dX12_init_362 : decode cX12_init 362 = .ok (.aload_n 0, 1) := by decide +kernel
theorem dX12_init_363 : decode cX12_init 363 = .ok (.bipush 16, 2) := by decide +kernel
theorem dX12_init_365 : decode cX12_init 365 = .ok (.newarray .int, 2) := by decide +kernel
theorem dX12_init_367 : decode cX12_init 367 = .ok (.putfield 134, 3) := by decide +kernel
theorem dX12_init_370 : decode cX12_init 370 = .ok (.aload_n 0, 1) := by decide +kernel
theorem dX12_init_371 : decode cX12_init 371 = .ok (.sipush 128, 3) := by decide +kernel
theorem dX12_init_374 : decode cX12_init 374 = .ok (.newarray .int, 2) := by decide +kernel
theorem dX12_init_376 : decode cX12_init 376 = .ok (.putfield 137, 3) := by decide +kernel
theorem dX12_init_379 : decode cX12_init 379 = .ok (.aload_n 0, 1) := by decide +kernel
theorem dX12_init_380 : decode cX12_init 380 = .ok (.bipush 14, 2) := by decide +kernel
theorem dX12_init_382 : decode cX12_init 382 = .ok (.newarray .int, 2) := by decide +kernel
theorem dX12_init_384 : decode cX12_init 384 = .ok (.putfield 140, 3) := by decide +kernel
theorem dX12_init_387 : decode cX12_init 387 = .ok (.aload_n 0, 1) := by decide +kernel
theorem dX12_init_388 : decode cX12_init 388 = .ok (.bipush 14, 2) := by decide +kernel
theorem dX12_init_390 : decode cX12_init 390 = .ok (.newarray .int, 2) := by decide +kernel
theorem dX12_init_392 : decode cX12_init 392 = .ok (.putfield 143, 3) := by decide +kernel
theorem dX12_init_395 : decode cX12_init 395 = .ok (.aload_n 0, 1) := by decide +kernel
theorem dX12_init_396 : decode cX12_init 396 = .ok (.bipush 14, 2) := by decide +kernel
theorem dX12_init_398 : decode cX12_init 398 = .ok (.newarray .int, 2) := by decide +kernel
theorem dX12_init_400 : decode cX12_init 400 = .ok (.putfield 146, 3) := by decide +kernel
theorem dX12_init_403 : decode cX12_init 403 = .ok (.aload_n 0, 1) := by decide +kernel
theorem dX12_init_404 : decode cX12_init 404 = .ok (.bipush 40, 2) := by decide +kernel
theorem dX12_init_406 : decode cX12_init 406 = .ok (.newarray .boolean, 2) := by decide +kernel
theorem dX12_init_408 : decode cX12_init 408 = .ok (.putfield 149, 3) := by decide +kernel
theorem dX12_init_411 : decode cX12_init 411 = .ok (.aload_n 0, 1) := by decide +kernel
theorem dX12_init_412 : decode cX12_init 412 = .ok (.bipush 40, 2) := by decide +kernel
theorem dX12_init_414 : decode cX12_init 414 = .ok (.newarray .int, 2) := by decide +kernel
theorem dX12_init_416 : decode cX12_init 416 = .ok (.putfield 152, 3) := by decide +kernel
theorem dX12_init_419 : decode cX12_init 419 = .ok (.aload_n 0, 1) := by decide +kernel
theorem dX12_init_420 : decode cX12_init 420 = .ok (.bipush 40, 2) := by decide +kernel
theorem dX12_init_422 : decode cX12_init 422 = .ok (.newarray .int, 2) := by decide +kernel
theorem dX12_init_424 : decode cX12_init 424 = .ok (.putfield 155, 3) := by decide +kernel
theorem dX12_init_427 : decode cX12_init 427 = .ok (.aload_n 0, 1) := by decide +kernel
theorem dX12_init_428 : decode cX12_init 428 = .ok (.bipush 40, 2) := by decide +kernel
theorem dX12_init_430 : decode cX12_init 430 = .ok (.newarray .int, 2) := by decide +kernel
theorem dX12_init_432 : decode cX12_init 432 = .ok (.putfield 158, 3) := by decide +kernel
theorem dX12_init_435 : decode cX12_init 435 = .ok (.iconst 0, 1) := by decide +kernel
theorem dX12_init_436 : decode cX12_init 436 = .ok (.istore_n 1, 1) := by decide +kernel
theorem dX12_init_437 : decode cX12_init 437 = .ok (.iload_n 1, 1) := by decide +kernel
theorem dX12_init_438 : decode cX12_init 438 = .ok (.iconst 4, 1) := by decide +kernel
theorem dX12_init_439 : decode cX12_init 439 = .ok (.if_icmp .ge 46, 3) := by decide +kernel
theorem dX12_init_442 : decode cX12_init 442 = .ok (.aload_n 0, 1) := by decide +kernel
theorem dX12_init_443 : decode cX12_init 443 = .ok (.getfield 119, 3) := by decide +kernel
theorem dX12_init_446 : decode cX12_init 446 = .ok (.iload_n 1, 1) := by decide +kernel
theorem dX12_init_447 : decode cX12_init 447 = .ok (.iload_n 1, 1) := by decide +kernel
theorem dX12_init_448 : decode cX12_init 448 = .ok (.ifCond .ne 8, 3) := by decide +kernel
theorem dX12_init_451 : decode cX12_init 451 = .ok (.bipush 100, 2) := by decide +kernel
theorem dX12_init_453 : decode cX12_init 453 = .ok (.goto 25, 3) := by decide +kernel
theorem dX12_init_456 : decode cX12_init 456 = .ok (.iload_n 1, 1) := by decide +kernel
theorem dX12_init_457 : decode cX12_init 457 = .ok (.iconst 1, 1) := by decide +kernel
theorem dX12_init_458 : decode cX12_init 458 = .ok (.if_icmp .ne 8, 3) := by decide +kernel
theorem dX12_init_461 : decode cX12_init 461 = .ok (.bipush 80, 2) := by decide +kernel
theorem dX12_init_463 : decode cX12_init 463 = .ok (.goto 15, 3) := by decide +kernel
theorem dX12_init_466 : decode cX12_init 466 = .ok (.iload_n 1, 1) := by decide +kernel
theorem dX12_init_467 : decode cX12_init 467 = .ok (.iconst 2, 1) := by decide +kernel
theorem dX12_init_468 : decode cX12_init 468 = .ok (.if_icmp .ne 8, 3) := by decide +kernel
theorem dX12_init_471 : decode cX12_init 471 = .ok (.bipush 50, 2) := by decide +kernel
theorem dX12_init_473 : decode cX12_init 473 = .ok (.goto 5, 3) := by decide +kernel
theorem dX12_init_476 : decode cX12_init 476 = .ok (.bipush 20, 2) := by decide +kernel
theorem dX12_init_478 : decode cX12_init 478 = .ok (.iastore, 1) := by decide +kernel
theorem dX12_init_479 : decode cX12_init 479 = .ok (.iinc 1 1, 3) := by decide +kernel
theorem dX12_init_482 : decode cX12_init 482 = .ok (.goto (-45), 3) := by decide +kernel
theorem dX12_init_485 : decode cX12_init 485 = .ok (.return_, 1) := by decide +kernel
theorem inn_X12_init_12 : ∀ w ∈ u_ws RX12 TX12 66, w ∈ wsX12_init := fun w h => List.mem_cons_of_mem _ (List.mem_append_right _ h)

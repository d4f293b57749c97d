theorem pI_sK {S : PS} {q k : Nat} : pI (sK S q k) = pI S := rfl
theorem pR_sK {S : PS} {q k : Nat} : pR (sK S q k) = pR S := rfl
theorem pN_sK {S : PS} {q k : Nat} : pN (sK S q k) = pN S := rfl
theorem mk_0 {S : PS} {q : Nat} (h0 : 20 ≤ (pI S 2 q).toInt ∧ (pI S 2 q).toInt ≤ 220) : OK S q 0 := fun t ht e => by
  have hm := (by decide +kernel : ∀ t ∈ TL, t.1 = 0 → t.2 = (0, 2, 0, 20, 220)) t ht e
  rw [hm]; exact h0
theorem mk_1 {S : PS} {q : Nat} (h0 : ∃ c, pR S 100 q = some c ∧ At S c 74 ∧ pN S c = 5) (h1 : 0 ≤ (pI S 101 q).toInt ∧ (pI S 101 q).toInt ≤ 5) : OK S q 1 := fun t ht e => by
  have hm := (by decide +kernel : ∀ t ∈ TL, t.1 = 1 → t.2 ∈ ([(1, 100, 74, 0, 5), (0, 101, 0, 0, 5)] : List aTy)) t ht e
  simp only [List.mem_cons, List.not_mem_nil, or_false] at hm
  rcases hm with h | h
  · rw [h]; exact h0
  · rw [h]; exact h1
theorem mk_2 {S : PS} {q : Nat} (h0 : ∃ c, pR S 200 q = some c ∧ At S c 1734 ∧ pN S c = 14) (h1 : ∃ c, pR S 201 q = some c ∧ At S c 1754 ∧ pN S c = 14) (h2 : ∃ c, pR S 202 q = some c ∧ At S c 1774 ∧ pN S c = 14) (h3 : 0 ≤ (pI S 203 q).toInt ∧ (pI S 203 q).toInt ≤ 14) : OK S q 2 := fun t ht e => by
  have hm := (by decide +kernel : ∀ t ∈ TL, t.1 = 2 → t.2 ∈ ([(1, 200, 1734, 0, 14), (1, 201, 1754, 0, 14), (1, 202, 1774, 0, 14), (0, 203, 0, 0, 14)] : List aTy)) t ht e
  simp only [List.mem_cons, List.not_mem_nil, or_false] at hm
  rcases hm with h | h | h | h
  · rw [h]; exact h0
  · rw [h]; exact h1
  · rw [h]; exact h2
  · rw [h]; exact h3
theorem mk_3 {S : PS} {q : Nat} (h0 : ∃ c, pR S 302 q = some c ∧ At S c 114 ∧ pN S c = 8) (h1 : 0 ≤ (pI S 301 q).toInt ∧ (pI S 301 q).toInt ≤ 8) (h2 : ∀ c, pR S 303 q = some c → At S c 0) : OK S q 3 := fun t ht e => by
  have hm := (by decide +kernel : ∀ t ∈ TL, t.1 = 3 → t.2 ∈ ([(1, 302, 114, 0, 8), (0, 301, 0, 0, 8), (3, 303, 0, 0, 0)] : List aTy)) t ht e
  simp only [List.mem_cons, List.not_mem_nil, or_false] at hm
  rcases hm with h | h | h
  · rw [h]; exact h0
  · rw [h]; exact h1
  · rw [h]; exact h2
theorem mk_4 {S : PS} {q : Nat} (h0 : ∃ c, pR S 400 q = some c ∧ At S c 5) (h1 : ∃ c, pR S 401 q = some c ∧ At S c 5) (h2 : ∃ c, pR S 402 q = some c ∧ At S c 5) (h3 : ∃ c, pR S 403 q = some c ∧ At S c 29) (h4 : ∃ c, pR S 409 q = some c ∧ At S c 6) : OK S q 4 := fun t ht e => by
  have hm := (by decide +kernel : ∀ t ∈ TL, t.1 = 4 → t.2 ∈ ([(2, 400, 5, 0, 0), (2, 401, 5, 0, 0), (2, 402, 5, 0, 0), (2, 403, 29, 0, 0), (2, 409, 6, 0, 0)] : List aTy)) t ht e
  simp only [List.mem_cons, List.not_mem_nil, or_false] at hm
  rcases hm with h | h | h | h | h
  · rw [h]; exact h0
  · rw [h]; exact h1
  · rw [h]; exact h2
  · rw [h]; exact h3
  · rw [h]; exact h4
theorem mk_5 {S : PS} {q : Nat} (h0 : aRow S q) : OK S q 5 := fun t ht e => by
  have hm := (by decide +kernel : ∀ t ∈ TL, t.1 = 5 → t.2 = (8, 0, 0, 0, 0)) t ht e
  rw [hm]; exact h0
theorem mk_6 {S : PS} {q : Nat} (h0 : 0 ≤ (pI S 600 q).toInt ∧ (pI S 600 q).toInt ≤ 12) (h1 : ∃ c, pR S 601 q = some c ∧ At S c 134 ∧ pN S c = 12) (h2 : ∃ c, pR S 602 q = some c ∧ At S c 134 ∧ pN S c = 12) (h3 : ∃ c, pR S 603 q = some c ∧ At S c 34 ∧ pN S c = 12) (h4 : ∃ c, pR S 604 q = some c ∧ At S c 134 ∧ pN S c = 48) (h5 : ∃ c, pR S 605 q = some c ∧ At S c 134 ∧ pN S c = 48) (h6 : ∃ c, pR S 606 q = some c ∧ At S c 134 ∧ pN S c = 48) : OK S q 6 := fun t ht e => by
  have hm := (by decide +kernel : ∀ t ∈ TL, t.1 = 6 → t.2 ∈ ([(0, 600, 0, 0, 12), (1, 601, 134, 0, 12), (1, 602, 134, 0, 12), (1, 603, 34, 0, 12), (1, 604, 134, 0, 48), (1, 605, 134, 0, 48), (1, 606, 134, 0, 48)] : List aTy)) t ht e
  simp only [List.mem_cons, List.not_mem_nil, or_false] at hm
  rcases hm with h | h | h | h | h | h | h
  · rw [h]; exact h0
  · rw [h]; exact h1
  · rw [h]; exact h2
  · rw [h]; exact h3
  · rw [h]; exact h4
  · rw [h]; exact h5
  · rw [h]; exact h6
theorem mk_7 {S : PS} {q : Nat} (h0 : ∃ c, pR S 703 q = some c ∧ At S c 9) : OK S q 7 := fun t ht e => by
  have hm := (by decide +kernel : ∀ t ∈ TL, t.1 = 7 → t.2 = (2, 703, 9, 0, 0)) t ht e
  rw [hm]; exact h0
theorem mk_8 {S : PS} {q : Nat} (h0 : 0 ≤ (pI S 800 q).toInt ∧ (pI S 800 q).toInt ≤ 40) (h1 : 0 ≤ (pI S 806 q).toInt ∧ (pI S 806 q).toInt ≤ 40) (h2 : ∃ c, pR S 807 q = some c ∧ At S c 154 ∧ pN S c = 4) (h3 : ∃ c, pR S 808 q = some c ∧ At S c 19 ∧ pN S c = 40) (h4 : ∃ c, pR S 809 q = some c ∧ At S c 1674 ∧ pN S c = 40) (h5 : ∃ c, pR S 810 q = some c ∧ At S c 1694 ∧ pN S c = 40) (h6 : ∃ c, pR S 811 q = some c ∧ At S c 1714 ∧ pN S c = 40) (h7 : ∃ c, pR S 812 q = some c ∧ At S c 2) : OK S q 8 := fun t ht e => by
  have hm := (by decide +kernel : ∀ t ∈ TL, t.1 = 8 → t.2 ∈ ([(0, 800, 0, 0, 40), (0, 806, 0, 0, 40), (1, 807, 154, 0, 4), (1, 808, 19, 0, 40), (1, 809, 1674, 0, 40), (1, 810, 1694, 0, 40), (1, 811, 1714, 0, 40), (2, 812, 2, 0, 0)] : List aTy)) t ht e
  simp only [List.mem_cons, List.not_mem_nil, or_false] at hm
  rcases hm with h | h | h | h | h | h | h | h
  · rw [h]; exact h0
  · rw [h]; exact h1
  · rw [h]; exact h2
  · rw [h]; exact h3
  · rw [h]; exact h4
  · rw [h]; exact h5
  · rw [h]; exact h6
  · rw [h]; exact h7
theorem mk_9 {S : PS} {q : Nat} (h0 : 0 ≤ (pI S 902 q).toInt ∧ (pI S 902 q).toInt ≤ 300) (h1 : 0 ≤ (pI S 904 q).toInt ∧ (pI S 904 q).toInt ≤ 3600) (h2 : ∃ c, pR S 900 q = some c ∧ At S c 1654 ∧ (pI S 902 q).toInt ≤ (pN S c : Int) ∧ pN S c ≤ 3600) (h3 : ∃ c, pR S 901 q = some c ∧ At S c 1654 ∧ (pI S 902 q).toInt ≤ (pN S c : Int) ∧ pN S c ≤ 3600) (h4 : ∃ c, pR S 905 q = some c ∧ At S c 1654 ∧ (pI S 904 q).toInt ≤ (pN S c : Int) ∧ pN S c ≤ 3600) (h5 : ∃ c, pR S 906 q = some c ∧ At S c 1654 ∧ (pI S 904 q).toInt ≤ (pN S c : Int) ∧ pN S c ≤ 3600) (h6 : ∃ c, pR S 907 q = some c ∧ At S c 1654 ∧ (pI S 904 q).toInt ≤ (pN S c : Int) ∧ pN S c ≤ 3600) (h7 : ∃ c, pR S 908 q = some c ∧ At S c 1654 ∧ (pI S 904 q).toInt ≤ (pN S c : Int) ∧ pN S c ≤ 3600) : OK S q 9 := fun t ht e => by
  have hm := (by decide +kernel : ∀ t ∈ TL, t.1 = 9 → t.2 ∈ ([(0, 902, 0, 0, 300), (0, 904, 0, 0, 3600), (6, 900, 1654, 0, 902), (6, 901, 1654, 0, 902), (6, 905, 1654, 0, 904), (6, 906, 1654, 0, 904), (6, 907, 1654, 0, 904), (6, 908, 1654, 0, 904)] : List aTy)) t ht e
  simp only [List.mem_cons, List.not_mem_nil, or_false] at hm
  rcases hm with h | h | h | h | h | h | h | h
  · rw [h]; exact h0
  · rw [h]; exact h1
  · rw [h]; exact h2
  · rw [h]; exact h3
  · rw [h]; exact h4
  · rw [h]; exact h5
  · rw [h]; exact h6
  · rw [h]; exact h7
theorem mk_29 {S : PS} {q : Nat} (h0 : 0 ≤ (pI S 902 q).toInt ∧ (pI S 902 q).toInt ≤ 300) (h1 : ∃ c, pR S 900 q = some c ∧ At S c 1614 ∧ pN S c = 300) (h2 : ∃ c, pR S 901 q = some c ∧ At S c 1634 ∧ pN S c = 300) (h3 : aGrw S q) : OK S q 29 := fun t ht e => by
  have hm := (by decide +kernel : ∀ t ∈ TL, t.1 = 29 → t.2 ∈ ([(0, 902, 0, 0, 300), (1, 900, 1614, 0, 300), (1, 901, 1634, 0, 300), (7, 0, 0, 0, 0)] : List aTy)) t ht e
  simp only [List.mem_cons, List.not_mem_nil, or_false] at hm
  rcases hm with h | h | h | h
  · rw [h]; exact h0
  · rw [h]; exact h1
  · rw [h]; exact h2
  · rw [h]; exact h3
theorem mk_10 {S : PS} {q : Nat} (h0 : 0 ≤ (pI S 1000 q).toInt ∧ (pI S 1000 q).toInt ≤ 400) (h1 : ∃ c, pR S 1003 q = some c ∧ At S c 13 ∧ pN S c = 400) : OK S q 10 := fun t ht e => by
  have hm := (by decide +kernel : ∀ t ∈ TL, t.1 = 10 → t.2 ∈ ([(0, 1000, 0, 0, 400), (1, 1003, 13, 0, 400)] : List aTy)) t ht e
  simp only [List.mem_cons, List.not_mem_nil, or_false] at hm
  rcases hm with h | h
  · rw [h]; exact h0
  · rw [h]; exact h1
theorem mk_11 {S : PS} {q : Nat} (h0 : ∃ c, pR S 1100 q = some c ∧ At S c 36 ∧ pN S c = 600) (h1 : ∃ c, pR S 1101 q = some c ∧ At S c 54 ∧ pN S c = 10) (h2 : 0 ≤ (pI S 1102 q).toInt ∧ (pI S 1102 q).toInt ≤ 10) (h3 : ∃ c, pR S 1103 q = some c ∧ At S c 18 ∧ pN S c = 4) (h4 : 0 ≤ (pI S 1104 q).toInt ∧ (pI S 1104 q).toInt ≤ 4) (h5 : ∃ c, pR S 1105 q = some c ∧ At S c 10) (h6 : ∃ c, pR S 1106 q = some c ∧ At S c 6) (h7 : ∃ c, pR S 1107 q = some c ∧ At S c 8) (h8 : ∃ c, pR S 1108 q = some c ∧ At S c 1) (h9 : ∃ c, pR S 1109 q = some c ∧ At S c 17 ∧ pN S c = 16) (h10 : ∃ c, pR S 1111 q = some c ∧ At S c 194 ∧ pN S c = 60) : OK S q 11 := fun t ht e => by
  have hm := (by decide +kernel : ∀ t ∈ TL, t.1 = 11 → t.2 ∈ ([(1, 1100, 36, 0, 600), (1, 1101, 54, 0, 10), (0, 1102, 0, 0, 10), (1, 1103, 18, 0, 4), (0, 1104, 0, 0, 4), (2, 1105, 10, 0, 0), (2, 1106, 6, 0, 0), (2, 1107, 8, 0, 0), (2, 1108, 1, 0, 0), (1, 1109, 17, 0, 16), (1, 1111, 194, 0, 60)] : List aTy)) t ht e
  simp only [List.mem_cons, List.not_mem_nil, or_false] at hm
  rcases hm with h | h | h | h | h | h | h | h | h | h | h
  · rw [h]; exact h0
  · rw [h]; exact h1
  · rw [h]; exact h2
  · rw [h]; exact h3
  · rw [h]; exact h4
  · rw [h]; exact h5
  · rw [h]; exact h6
  · rw [h]; exact h7
  · rw [h]; exact h8
  · rw [h]; exact h9
  · rw [h]; exact h10
theorem mk_12 {S : PS} {q : Nat} (h0 : 0 ≤ (pI S 1201 q).toInt ∧ (pI S 1201 q).toInt ≤ 10) (h1 : 0 ≤ (pI S 1211 q).toInt ∧ (pI S 1211 q).toInt ≤ 4) (h2 : 0 ≤ (pI S 1228 q).toInt ∧ (pI S 1228 q).toInt ≤ 400) (h3 : 0 ≤ (pI S 1232 q).toInt ∧ (pI S 1232 q).toInt ≤ 400) (h4 : 0 ≤ (pI S 1233 q).toInt ∧ (pI S 1233 q).toInt ≤ 400) (h5 : 0 ≤ (pI S 1238 q).toInt ∧ (pI S 1238 q).toInt ≤ 40) (h6 : 0 ≤ (pI S 1251 q).toInt ∧ (pI S 1251 q).toInt ≤ 5) (h7 : 0 ≤ (pI S 1262 q).toInt ∧ (pI S 1262 q).toInt ≤ 40) (h8 : ∃ c, pR S 1202 q = some c ∧ At S c 254 ∧ pN S c = 10) (h9 : ∃ c, pR S 1203 q = some c ∧ At S c 274 ∧ pN S c = 10) (h10 : ∃ c, pR S 1204 q = some c ∧ At S c 294 ∧ pN S c = 10) (h11 : ∃ c, pR S 1205 q = some c ∧ At S c 314 ∧ pN S c = 10) (h12 : ∃ c, pR S 1206 q = some c ∧ At S c 334 ∧ pN S c = 10) (h13 : ∃ c, pR S 1207 q = some c ∧ At S c 354 ∧ pN S c = 600) (h14 : ∃ c, pR S 1208 q = some c ∧ At S c 374 ∧ pN S c = 600) (h15 : ∃ c, pR S 1209 q = some c ∧ At S c 394 ∧ pN S c = 600) (h16 : ∃ c, pR S 1210 q = some c ∧ At S c 414 ∧ pN S c = 8) (h17 : ∃ c, pR S 1212 q = some c ∧ At S c 454 ∧ pN S c = 4) (h18 : ∃ c, pR S 1213 q = some c ∧ At S c 474 ∧ pN S c = 4) (h19 : ∃ c, pR S 1214 q = some c ∧ At S c 494 ∧ pN S c = 4) (h20 : ∃ c, pR S 1215 q = some c ∧ At S c 514 ∧ pN S c = 4) (h21 : ∃ c, pR S 1216 q = some c ∧ At S c 534 ∧ pN S c = 4) (h22 : ∃ c, pR S 1217 q = some c ∧ At S c 554 ∧ pN S c = 4) (h23 : ∃ c, pR S 1218 q = some c ∧ At S c 574 ∧ pN S c = 7200) (h24 : ∃ c, pR S 1219 q = some c ∧ At S c 594 ∧ pN S c = 12) (h25 : ∃ c, pR S 1220 q = some c ∧ At S c 614 ∧ pN S c = 5) (h26 : ∃ c, pR S 1221 q = some c ∧ At S c 634 ∧ pN S c = 60) (h27 : ∃ c, pR S 1222 q = some c ∧ At S c 654 ∧ pN S c = 60) (h28 : ∃ c, pR S 1223 q = some c ∧ At S c 674 ∧ pN S c = 60) (h29 : ∃ c, pR S 1224 q = some c ∧ At S c 694 ∧ pN S c = 240) (h30 : ∃ c, pR S 1225 q = some c ∧ At S c 714 ∧ pN S c = 240) (h31 : ∃ c, pR S 1226 q = some c ∧ At S c 734 ∧ pN S c = 240) (h32 : ∃ c, pR S 1227 q = some c ∧ At S c 753 ∧ pN S c = 400) (h33 : ∃ c, pR S 1235 q = some c ∧ At S c 914 ∧ pN S c = 13200) (h34 : ∃ c, pR S 1236 q = some c ∧ At S c 934 ∧ pN S c = 158400) (h35 : ∃ c, pR S 1237 q = some c ∧ At S c 954 ∧ pN S c = 4) (h36 : ∃ c, pR S 1239 q = some c ∧ At S c 994 ∧ pN S c = 41) (h37 : ∃ c, pR S 1240 q = some c ∧ At S c 1014 ∧ pN S c = 40) (h38 : ∃ c, pR S 1241 q = some c ∧ At S c 1034 ∧ pN S c = 40) (h39 : ∃ c, pR S 1242 q = some c ∧ At S c 1054 ∧ pN S c = 40) (h40 : ∃ c, pR S 1243 q = some c ∧ At S c 1074 ∧ pN S c = 40) (h41 : ∃ c, pR S 1244 q = some c ∧ At S c 1095 ∧ pN S c = 40) (h42 : ∃ c, pR S 1248 q = some c ∧ At S c 1174 ∧ pN S c = 4) (h43 : ∃ c, pR S 1252 q = some c ∧ At S c 1254 ∧ pN S c = 5) (h44 : ∃ c, pR S 1253 q = some c ∧ At S c 1275 ∧ pN S c = 16) (h45 : ∃ c, pR S 1254 q = some c ∧ At S c 1294 ∧ pN S c = 16) (h46 : ∃ c, pR S 1255 q = some c ∧ At S c 1314 ∧ pN S c = 16) (h47 : ∃ c, pR S 1256 q = some c ∧ At S c 1334 ∧ pN S c = 16) (h48 : ∃ c, pR S 1257 q = some c ∧ At S c 1354 ∧ pN S c = 128) (h49 : ∃ c, pR S 1258 q = some c ∧ At S c 1374 ∧ pN S c = 14) (h50 : ∃ c, pR S 1259 q = some c ∧ At S c 1394 ∧ pN S c = 14) (h51 : ∃ c, pR S 1260 q = some c ∧ At S c 1414 ∧ pN S c = 14) (h52 : ∃ c, pR S 1261 q = some c ∧ At S c 1435 ∧ pN S c = 40) (h53 : ∃ c, pR S 1263 q = some c ∧ At S c 1474 ∧ pN S c = 40) (h54 : ∃ c, pR S 1264 q = some c ∧ At S c 1494 ∧ pN S c = 40) (h55 : ∃ c, pR S 1265 q = some c ∧ At S c 1514 ∧ pN S c = 40) : OK S q 12 := fun t ht e => by
  have hm := (by decide +kernel : ∀ t ∈ TL, t.1 = 12 → t.2 ∈ ([(0, 1201, 0, 0, 10), (0, 1211, 0, 0, 4), (0, 1228, 0, 0, 400), (0, 1232, 0, 0, 400), (0, 1233, 0, 0, 400), (0, 1238, 0, 0, 40), (0, 1251, 0, 0, 5), (0, 1262, 0, 0, 40), (1, 1202, 254, 0, 10), (1, 1203, 274, 0, 10), (1, 1204, 294, 0, 10), (1, 1205, 314, 0, 10), (1, 1206, 334, 0, 10), (1, 1207, 354, 0, 600), (1, 1208, 374, 0, 600), (1, 1209, 394, 0, 600), (1, 1210, 414, 0, 8), (1, 1212, 454, 0, 4), (1, 1213, 474, 0, 4), (1, 1214, 494, 0, 4), (1, 1215, 514, 0, 4), (1, 1216, 534, 0, 4), (1, 1217, 554, 0, 4), (1, 1218, 574, 0, 7200), (1, 1219, 594, 0, 12), (1, 1220, 614, 0, 5), (1, 1221, 634, 0, 60), (1, 1222, 654, 0, 60), (1, 1223, 674, 0, 60), (1, 1224, 694, 0, 240), (1, 1225, 714, 0, 240), (1, 1226, 734, 0, 240), (1, 1227, 753, 0, 400), (1, 1235, 914, 0, 13200), (1, 1236, 934, 0, 158400), (1, 1237, 954, 0, 4), (1, 1239, 994, 0, 41), (1, 1240, 1014, 0, 40), (1, 1241, 1034, 0, 40), (1, 1242, 1054, 0, 40), (1, 1243, 1074, 0, 40), (1, 1244, 1095, 0, 40), (1, 1248, 1174, 0, 4), (1, 1252, 1254, 0, 5), (1, 1253, 1275, 0, 16), (1, 1254, 1294, 0, 16), (1, 1255, 1314, 0, 16), (1, 1256, 1334, 0, 16), (1, 1257, 1354, 0, 128), (1, 1258, 1374, 0, 14), (1, 1259, 1394, 0, 14), (1, 1260, 1414, 0, 14), (1, 1261, 1435, 0, 40), (1, 1263, 1474, 0, 40), (1, 1264, 1494, 0, 40), (1, 1265, 1514, 0, 40)] : List aTy)) t ht e
  simp only [List.mem_cons, List.not_mem_nil, or_false] at hm
  rcases hm with h | h | h | h | h | h | h | h | h | h | h | h | h | h | h | h | h | h | h | h | h | h | h | h | h | h | h | h | h | h | h | h | h | h | h | h | h | h | h | h | h | h | h | h | h | h | h | h | h | h | h | h | h | h | h | h
  · rw [h]; exact h0
  · rw [h]; exact h1
  · rw [h]; exact h2
  · rw [h]; exact h3
  · rw [h]; exact h4
  · rw [h]; exact h5
  · rw [h]; exact h6
  · rw [h]; exact h7
  · rw [h]; exact h8
  · rw [h]; exact h9
  · rw [h]; exact h10
  · rw [h]; exact h11
  · rw [h]; exact h12
  · rw [h]; exact h13
  · rw [h]; exact h14
  · rw [h]; exact h15
  · rw [h]; exact h16
  · rw [h]; exact h17
  · rw [h]; exact h18
  · rw [h]; exact h19
  · rw [h]; exact h20
  · rw [h]; exact h21
  · rw [h]; exact h22
  · rw [h]; exact h23
  · rw [h]; exact h24
  · rw [h]; exact h25
  · rw [h]; exact h26
  · rw [h]; exact h27
  · rw [h]; exact h28
  · rw [h]; exact h29
  · rw [h]; exact h30
  · rw [h]; exact h31
  · rw [h]; exact h32
  · rw [h]; exact h33
  · rw [h]; exact h34
  · rw [h]; exact h35
  · rw [h]; exact h36
  · rw [h]; exact h37
  · rw [h]; exact h38
  · rw [h]; exact h39
  · rw [h]; exact h40
  · rw [h]; exact h41
  · rw [h]; exact h42
  · rw [h]; exact h43
  · rw [h]; exact h44
  · rw [h]; exact h45
  · rw [h]; exact h46
  · rw [h]; exact h47
  · rw [h]; exact h48
  · rw [h]; exact h49
  · rw [h]; exact h50
  · rw [h]; exact h51
  · rw [h]; exact h52
  · rw [h]; exact h53
  · rw [h]; exact h54
  · rw [h]; exact h55
/-! ===== what is made: the heap's cells and slots, and what may still be made ===== -/
def hs (H : Heap) : Nat := (H.toList.map (fun c => c.slots.size)).sum
theorem sum_take_drop (l : List Nat) (n : Nat) : l.sum = (l.take n).sum + (l.drop n).sum := by
  conv => lhs; rw [← List.take_append_drop n l]
  rw [List.sum_append]
theorem hs_new {s s' : State} {locs : List Loc} {cells slots : Nat} (h : s.sameButNew s' locs cells slots) : hs s'.heap = hs s.heap + ((s'.heap.toList.drop s.heap.size).map (·.slots.size)).sum := by
  unfold hs
  rw [sum_take_drop (s'.heap.toList.map fun c => c.slots.size) s.heap.size, ← List.map_drop, ← List.map_take]
  congr 2
  apply List.ext_getElem?
  intro i
  rw [List.getElem?_map, List.getElem?_map, List.getElem?_take]
  by_cases hi : i < s.heap.size
  · rw [if_pos hi, Array.getElem?_toList, Array.getElem?_toList]
    have e1 : s.heap[i]? = some (s.heap[i]) := Array.getElem?_eq_getElem hi
    obtain ⟨c', h1, -, h2, -⟩ := h.2.2.2.2.2 i _ e1
    rw [h1, e1]
    simp [h2]
  · rw [if_neg hi, Array.getElem?_toList, Array.getElem?_eq_none (Nat.not_lt.mp hi)]
section KNOW
variable {p : Program} {l : Launch} {e : Env} {R : Room} {s : State} {m : MethodId} {args : Array Value} {below : List Frame} {meth : Method} {c : Code} {H : Heap} {locs : List Loc} {cells slots : Nat} {Q : State → Prop} {g : JFrame}
theorem W.know (kk : s.heap.size ≤ H.size → H.size ≤ s.heap.size + cells → hs s.heap ≤ hs H → hs H ≤ hs s.heap + slots → W p l e R s m args below meth c H locs cells slots Q g) : W p l e R s m args below meth c H locs cells slots Q g := by
  intro T hT X
  have hn := hs_new X.same
  have h1 : (T.setVm s.vm).heap = H := hT
  rw [h1] at hn
  have h2 := X.same.2.2.2.2.1
  rw [h1] at h2
  have h3 := X.same.2.2.1
  rw [h1] at h3
  have h4 := X.same.2.1
  rw [h1] at h4
  exact kk h4 h3 (by omega) (by omega) T hT X
theorem W.narrow {k n : Nat} (h1 : H.size ≤ s.heap.size + k) (h2 : hs H ≤ hs s.heap + n) (kk : W p l e R s m args below meth c H locs k n Q g) : W p l e R s m args below meth c H locs cells slots Q g := by
  intro T hT X
  have hn := hs_new X.same
  have e1 : (T.setVm s.vm).heap = H := hT
  rw [e1] at hn
  refine kk T hT { X with same := ⟨X.same.1, X.same.2.1, ?_, X.same.2.2.2.1, ?_, X.same.2.2.2.2.2⟩ }
  · rw [e1]; exact h1
  · rw [e1]; omega
end KNOW
def fS (n : Nat) : Nat := if n < 3600 then 43200 - 8 * n else 0
def fC (n : Nat) : Nat := 4 * (3600 - n)
/-- what an object may still have made: a strand that grows, the store, the mill -/
def ph (f : Nat → Nat) (c8 c11 : Nat) (S : PS) (a : Nat) : Nat := if pK S a = 29 then (match pR S 905 a with | some q => f (pN S q) | none => 0) else if pK S a = 8 then (40 - (pI S 800 a).toInt.toNat) * c8 else if pK S a = 11 then (4 - (pI S 1104 a).toInt.toNat) * c11 else 0
def Ph (f : Nat → Nat) (c8 c11 : Nat) (S : PS) : Nat := ((pL S).map (ph f c8 c11 S)).sum
def Phc (S : PS) : Nat := Ph fC 8 14400 S
def Phs (S : PS) : Nat := Ph fS 15100 46000 S
section PHI
variable {f : Nat → Nat} {c8 c11 : Nat}
theorem Ph_congr {S S' : PS} (hL : pL S' = pL S) (h : ∀ a ∈ pL S, ph f c8 c11 S' a = ph f c8 c11 S a) : Ph f c8 c11 S' = Ph f c8 c11 S := by
  unfold Ph; rw [hL, List.map_congr_left h]
theorem Ph_push {S S' : PS} {q : Nat} (hL : pL S' = pL S ++ [q]) (h : ∀ a ∈ pL S, ph f c8 c11 S' a = ph f c8 c11 S a) : Ph f c8 c11 S' = Ph f c8 c11 S + ph f c8 c11 S' q := by
  unfold Ph; rw [hL, List.map_append, List.sum_append, List.map_congr_left h]; simp
theorem sum_one {l : List Nat} (hd : l.Nodup) {a : Nat} (ha : a ∈ l) {x y : Nat → Nat} (h : ∀ b ∈ l, b ≠ a → x b = y b) : (l.map x).sum + y a = (l.map y).sum + x a := by
  induction l with
  | nil => cases ha
  | cons b l ih =>
    rw [List.nodup_cons] at hd
    simp only [List.map_cons, List.sum_cons]
    by_cases hb : b = a
    · subst hb
      rw [List.map_congr_left (fun c hc => h c (List.mem_cons_of_mem _ hc) (fun e => hd.1 (e ▸ hc)))]
      omega
    · have h1 : a ∈ l := by
        rcases List.mem_cons.mp ha with e | e
        · exact absurd e.symm hb
        · exact e
      have h2 := ih hd.2 h1 (fun c hc => h c (List.mem_cons_of_mem _ hc))
      have h3 := h b List.mem_cons_self hb
      omega
theorem Ph_one {S S' : PS} {a : Nat} (hd : (pL S).Nodup) (ha : a ∈ pL S) (hL : pL S' = pL S) (h : ∀ b ∈ pL S, b ≠ a → ph f c8 c11 S' b = ph f c8 c11 S b) : Ph f c8 c11 S' + ph f c8 c11 S a = Ph f c8 c11 S + ph f c8 c11 S' a := by
  unfold Ph; rw [hL]; exact sum_one hd ha h
theorem ph_congr {S S' : PS} {a : Nat} (hK : pK S' a = pK S a) (h8 : pI S' 800 a = pI S 800 a) (h11 : pI S' 1104 a = pI S 1104 a) (hR : pR S' 905 a = pR S 905 a) (hN : ∀ q, pK S a = 29 → pR S 905 a = some q → pN S' q = pN S q) : ph f c8 c11 S' a = ph f c8 c11 S a := by
  unfold ph
  rw [hK, h8, h11, hR]
  by_cases h : pK S a = 29
  · rw [if_pos h, if_pos h]
    cases hq : pR S 905 a with
    | none => rfl
    | some q => show f (pN S' q) = f (pN S q); rw [hN q h hq]
  · rw [if_neg h, if_neg h]
theorem Ph_sI {S S1 : PS} {g a : Nat} {v : Int32} (e : S1 = sI S g a v) (h1 : Nat.beq 800 g = false) (h2 : Nat.beq 1104 g = false) : Ph f c8 c11 S1 = Ph f c8 c11 S := by
  subst e
  exact Ph_congr rfl (fun b _ => ph_congr rfl (pI_sI_nf (Nat.ne_of_beq_eq_false h1)) (pI_sI_nf (Nat.ne_of_beq_eq_false h2)) (by rw [pR_sI]) (fun _ _ _ => by rw [pN_sI]))
theorem Ph_sR {S S1 : PS} {g a : Nat} {v : Option Nat} (e : S1 = sR S g a v) (h1 : Nat.beq 905 g = false) : Ph f c8 c11 S1 = Ph f c8 c11 S := by
  subst e
  exact Ph_congr rfl (fun b _ => ph_congr rfl (by rw [pI_sR]) (by rw [pI_sR]) (pR_sR_nf (Nat.ne_of_beq_eq_false h1)) (fun _ _ _ => by rw [pN_sR]))
theorem Ph_sA {S S1 : PS} {a : Nat} {g : Nat → Int32} (e : S1 = sA S a g) : Ph f c8 c11 S1 = Ph f c8 c11 S := by
  subst e
  exact Ph_congr rfl (fun b _ => ph_congr rfl (by rw [pI_sA]) (by rw [pI_sA]) (by rw [pR_sA]) (fun _ _ _ => by rw [pN_sA]))
theorem Ph_sB {S S1 : PS} {a : Nat} {g : Nat → Option Nat} (e : S1 = sB S a g) : Ph f c8 c11 S1 = Ph f c8 c11 S := by
  subst e
  exact Ph_congr rfl (fun b _ => ph_congr rfl (by rw [pI_sB]) (by rw [pI_sB]) (by rw [pR_sB]) (fun _ _ _ => by rw [pN_sB]))
theorem codes_in {S : PS} (hG : GX S) {b q : Nat} (hb : b ∈ pL S) (hk : pK S b = 29) (hq : pR S 905 b = some q) : q ∈ pL S := by
  obtain ⟨q1, q2, q3, q4, n, a1, a2, a3, a4, b1, r⟩ := gGrw hG ⟨hb, hk⟩
  rw [hq] at a1; cases a1; exact b1.1
theorem Ph_sO {S S1 : PS} {q k : Nat} (hG : GX S) (hq : q ∉ pL S) (e : S1 = sO S q k) (hk : Nat.beq k 29 = false ∧ Nat.beq k 8 = false ∧ Nat.beq k 11 = false) : Ph f c8 c11 S1 = Ph f c8 c11 S := by
  subst e
  have h1 := Ph_push (f := f) (c8 := c8) (c11 := c11) (S := S) (S' := sO S q k) rfl (fun b hb => by
    have hne := ne_of_new hq hb
    exact ph_congr (if_neg hne) (pI_sO_ne hne) (pI_sO_ne hne) (pR_sO_ne hne) (fun _ _ _ => by rw [pN_sO]))
  rw [h1]
  have e2 : pK (sO S q k) q = k := if_pos rfl
  have : ph f c8 c11 (sO S q k) q = 0 := by
    unfold ph
    rw [e2, if_neg (Nat.ne_of_beq_eq_false hk.1), if_neg (Nat.ne_of_beq_eq_false hk.2.1), if_neg (Nat.ne_of_beq_eq_false hk.2.2)]
  omega
theorem Ph_sN {S S1 : PS} {q k n : Nat} (hG : GX S) (hq : q ∉ pL S) (e : S1 = sN S q k n) (hk : Nat.beq k 29 = false ∧ Nat.beq k 8 = false ∧ Nat.beq k 11 = false) : Ph f c8 c11 S1 = Ph f c8 c11 S := by
  subst e
  have h1 := Ph_push (f := f) (c8 := c8) (c11 := c11) (S := S) (S' := sN S q k n) rfl (fun b hb => by
    have hne := ne_of_new hq hb
    exact ph_congr (if_neg hne) (by rw [pI_sN]) (by rw [pI_sN]) (by rw [pR_sN]) (fun c hc hr => pN_sN_ne (ne_of_new hq (codes_in hG hb hc hr))))
  rw [h1]
  have e2 : pK (sN S q k n) q = k := if_pos rfl
  have : ph f c8 c11 (sN S q k n) q = 0 := by
    unfold ph
    rw [e2, if_neg (Nat.ne_of_beq_eq_false hk.1), if_neg (Nat.ne_of_beq_eq_false hk.2.1), if_neg (Nat.ne_of_beq_eq_false hk.2.2)]
  omega
theorem Ph_ok {M : List Nat} {S S' : PS} (hG : GX S) (h : Ok M S S') (h1 : M.contains 800 = false) (h2 : M.contains 1104 = false) (h3 : M.contains 905 = false) : Ph f c8 c11 S' = Ph f c8 c11 S := by
  refine Ph_congr h.2.2 (fun b hb => ?_)
  have hb' : At S b (pK S b) := ⟨hb, rfl⟩
  exact ph_congr (h.2.1.1 b hb).2.1 (h.2.1.I' h1 hb' rfl) (h.2.1.I' h2 hb' rfl) (h.2.1.R' h3 hb' rfl) (fun q hk hr => (h.2.1.1 q (codes_in hG hb hk hr)).2.2)
theorem Ph_800 {S S1 : PS} {a : Nat} {v : Int32} (hd : (pL S).Nodup) (ha : At S a 8) (e : S1 = sI S 800 a v) : Ph f c8 c11 S1 + (40 - (pI S 800 a).toInt.toNat) * c8 = Ph f c8 c11 S + (40 - v.toInt.toNat) * c8 := by
  subst e
  have h := Ph_one (f := f) (c8 := c8) (c11 := c11) (S := S) (S' := sI S 800 a v) hd ha.1 rfl (fun b hb hne => ph_congr rfl (pI_sI_ne hne) (pI_sI_ne hne) (by rw [pR_sI]) (fun _ _ _ => by rw [pN_sI]))
  have e1 : ph f c8 c11 S a = (40 - (pI S 800 a).toInt.toNat) * c8 := by
    unfold ph; rw [ha.2, if_neg (by decide), if_pos rfl]
  have e2 : ph f c8 c11 (sI S 800 a v) a = (40 - v.toInt.toNat) * c8 := by
    unfold ph; rw [show pK (sI S 800 a v) a = 8 from ha.2, if_neg (by decide), if_pos rfl, pI_sI_same]
  rw [e1, e2] at h; exact h
theorem Ph_1104 {S S1 : PS} {a : Nat} {v : Int32} (hd : (pL S).Nodup) (ha : At S a 11) (e : S1 = sI S 1104 a v) : Ph f c8 c11 S1 + (4 - (pI S 1104 a).toInt.toNat) * c11 = Ph f c8 c11 S + (4 - v.toInt.toNat) * c11 := by
  subst e
  have h := Ph_one (f := f) (c8 := c8) (c11 := c11) (S := S) (S' := sI S 1104 a v) hd ha.1 rfl (fun b hb hne => ph_congr rfl (pI_sI_ne hne) (pI_sI_ne hne) (by rw [pR_sI]) (fun _ _ _ => by rw [pN_sI]))
  have e1 : ph f c8 c11 S a = (4 - (pI S 1104 a).toInt.toNat) * c11 := by
    unfold ph; rw [ha.2, if_neg (by decide), if_neg (by decide), if_pos rfl]
  have e2 : ph f c8 c11 (sI S 1104 a v) a = (4 - v.toInt.toNat) * c11 := by
    unfold ph; rw [show pK (sI S 1104 a v) a = 11 from ha.2, if_neg (by decide), if_neg (by decide), if_pos rfl, pI_sI_same]
  rw [e1, e2] at h; exact h
end PHI
theorem nodup_of {G : va_G} {cy : Nat → ClassId} {A : Nat → Prop} {H0 H : Heap} {S : PS} {locs : List Loc} (hw : Wd G cy A H0 S H locs) : (pL S).Nodup := by
  have h := hw.2.1.1
  rw [List.nodup_iff_pairwise_ne, List.pairwise_iff_getElem]
  intro i j hi hj hij e
  have e1 : (pool cy S)[i]? = some ((pL S)[i], PF cy S (pL S)[i]) := by
    unfold pool va_pl; rw [List.getElem?_map, List.getElem?_eq_getElem hi]; rfl
  have e2 : (pool cy S)[j]? = some ((pL S)[j], PF cy S (pL S)[j]) := by
    unfold pool va_pl; rw [List.getElem?_map, List.getElem?_eq_getElem hj]; rfl
  have := h i _ _ _ e1 e2 e
  omega
/-! ===== contracts of calls that make something, by what may still be made ===== -/
def Pg (G : va_G) (cy : Nat → ClassId) (κ : Nat → Nat) (S : PS) (sz hz : Nat) : State → Prop := fun U => Pw G cy κ S sz U ∧ hs U.heap = hz
def Bg (G : va_G) (cy : Nat → ClassId) (S : PS) (sz hz kc ks : Nat) : PS → State → Prop := fun S' t => Bw G cy S sz S' t ∧ t.heap.size + Phc S' ≤ sz + Phc S + kc ∧ hs t.heap + Phs S' ≤ hz + Phs S + ks
def Gi (l : Launch) (y : MethodName) (ws : List Cond) (rm : Room) (G : va_G) (cy : Nat → ClassId) (κ : Nat → Nat) (S : PS) (sz hz kc ks : Nat) (av : List Value) (post : Int32 → PS → Prop) : Prop := Met l y ws rm (va_Pc av (Pg G cy κ S sz hz)) (va_Qi post (Bg G cy S sz hz kc ks) (AS S sz)) rm.cells rm.slots (AS S sz)
def Gv (l : Launch) (y : MethodName) (ws : List Cond) (rm : Room) (G : va_G) (cy : Nat → ClassId) (κ : Nat → Nat) (S : PS) (sz hz kc ks : Nat) (av : List Value) (post : PS → Prop) : Prop := Met l y ws rm (va_Pc av (Pg G cy κ S sz hz)) (va_Qv post (Bg G cy S sz hz kc ks) (AS S sz)) rm.cells rm.slots (AS S sz)
def Gq (l : Launch) (y : MethodName) (ws : List Cond) (rm : Room) (G : va_G) (cy : Nat → ClassId) (κ : Nat → Nat) (S : PS) (sz hz kc ks : Nat) (av : List Value) (post : Option Nat → PS → Prop) : Prop := Met l y ws rm (va_Pc av (Pg G cy κ S sz hz)) (va_Qq post (Bg G cy S sz hz kc ks) (AS S sz)) rm.cells rm.slots (AS S sz)
theorem ent_g {l : Launch} {y : MethodName} {ws ws' : List Cond} {rm : Room} {G : va_G} {cy : Nat → ClassId} {κ : Nat → Nat} {S : PS} {sz hz : Nat} {av : List Value} {Qc : Array Value → State → Outcome → State → Prop} {cc : ByteArray} {maxL : Nat} {ret : Option FieldType} (hy : plainName y.cls = true) (hw : ws = Cond.code y cc maxL ret :: ws') (hlen : (lg_sl av).length ≤ maxL)
    (body : ∀ (p : Program) (e : Env) (s : State) (m : MethodId) (below : List Frame) (meth : Method) (c : Code) (ls : Array Slot), Cx p c cc maxL s av.toArray ws y.cls m G cy κ (AS S s.heap.size) → meth.sig.returnType = ret → meth.locks = false → meth.name = y.name → Wd G cy (AS S s.heap.size) s.heap S s.heap [] → lv_has ls maxL (lv_args 0 av) → sz = s.heap.size → hz = hs s.heap → W p l e rm s m av.toArray below meth c s.heap [] 0 0 (MQ below Qc av.toArray s rm.cells rm.slots (AS S sz)) (F0 m 0 ls [])) : Met l y ws rm (va_Pc av (Pg G cy κ S sz hz)) Qc rm.cells rm.slots (AS S sz) := by
  refine Met.ofW (cc := cc) (maxL := maxL) (ret := ret) hy hw ?_
  intro p e s m args below meth c s₁ B hml hv
  obtain ⟨rfl, ⟨hsz, hP, hK, hD, hNG, hCs⟩, hhz⟩ := hv
  subst hsz
  have hl := lv_entry av (n := maxL) hlen
  rw [lg_entry_eq]
  refine body p e s m below meth c _ ⟨B.exec, B.bytes, hml, atoms_spec (ws := ws) B.pre, findClass_of_methodNamed B.named, hK, fun q h => Or.inr h, hNG, hCs⟩ B.returns B.notSynchronized (name_of_methodNamed B.named B.method).1 ⟨hP, ?_, va_S.rf⟩ hl rfl hhz.symm
  exact hD.weaken (fun k q hk _ => Or.inl (pl_mem hk))
section GCALLS
variable {p : Program} {l : Launch} {e : Env} {R : Room} {s : State} {m : MethodId} {args : Array Value} {below : List Frame} {meth : Method} {c : Code} {H : Heap} {locs : List Loc} {cells slots : Nat} {Q : State → Prop}
variable {cc : ByteArray} {pc nL : Nat} {ls : Array Slot} {rest : List Value} {Ts : List Cond} {own ref : String} {G : va_G} {cy : Nat → ClassId} {κ : Nat → Nat} {A : Nat → Prop} {S : PS} {a k0 k index kc ks : Nat}
theorem ret_gi {S0 S' : PS} {post : Int32 → PS → Prop} {v : Int32} {mc ms : Nat} (X : Cx p c cc nL s args Ts own m G cy κ (AS S0 s.heap.size)) (hw : Wd G cy (AS S0 s.heap.size) s.heap S' H locs) (hr : meth.sig.returnType = some .int) (hlocks : meth.locks = false) (h1 : cells ≤ mc) (h2 : slots ≤ ms) (g1 : cells + Phc S' ≤ Phc S0 + kc) (g2 : slots + Phs S' ≤ Phs S0 + ks) (hp : post v S') (hdg : decode cc pc = .ok (.ireturn, 1)) : W p l e R s m args below meth c H locs cells slots (MQ below (va_Qi post (Bg G cy S0 s.heap.size (hs s.heap) kc ks) (AS S0 s.heap.size)) args s mc ms (AS S0 s.heap.size)) (F0 m pc ls [.int v]) := by
  refine W.know (fun k0 k1 k2 k3 => ?_)
  refine W.widen h1 h2 ?_
  exact W.iret X.1 X.2.1 hr (fun t ht hW => ⟨⟨v, S', rfl, hp, ⟨by rw [ht]; exact hw.1, hw.2.1⟩, by rw [ht]; omega, by rw [ht]; omega⟩, hw.2.2.F ht⟩) hw.2.2.2.2 hdg hlocks
theorem ret_gz {S0 S' : PS} {post : Int32 → PS → Prop} {v : Int32} {mc ms : Nat} (X : Cx p c cc nL s args Ts own m G cy κ (AS S0 s.heap.size)) (hw : Wd G cy (AS S0 s.heap.size) s.heap S' H locs) (hr : meth.sig.returnType = some .boolean) (hlocks : meth.locks = false) (h1 : cells ≤ mc) (h2 : slots ≤ ms) (g1 : cells + Phc S' ≤ Phc S0 + kc) (g2 : slots + Phs S' ≤ Phs S0 + ks) (hv : v = 0 ∨ v = 1) (hp : post v S') (hdg : decode cc pc = .ok (.ireturn, 1)) : W p l e R s m args below meth c H locs cells slots (MQ below (va_Qi post (Bg G cy S0 s.heap.size (hs s.heap) kc ks) (AS S0 s.heap.size)) args s mc ms (AS S0 s.heap.size)) (F0 m pc ls [.int v]) := by
  refine W.know (fun k0 k1 k2 k3 => ?_)
  refine W.widen h1 h2 ?_
  exact W.zret X.1 X.2.1 hr (by rcases hv with h | h <;> (rw [h]; decide +kernel)) (fun t ht hW => ⟨⟨v, S', rfl, hp, ⟨by rw [ht]; exact hw.1, hw.2.1⟩, by rw [ht]; omega, by rw [ht]; omega⟩, hw.2.2.F ht⟩) hw.2.2.2.2 hdg hlocks
theorem ret_gv {S0 S' : PS} {post : PS → Prop} {mc ms : Nat} (X : Cx p c cc nL s args Ts own m G cy κ (AS S0 s.heap.size)) (hw : Wd G cy (AS S0 s.heap.size) s.heap S' H locs) (hr : meth.sig.returnType = none) (hlocks : meth.locks = false) (h1 : cells ≤ mc) (h2 : slots ≤ ms) (g1 : cells + Phc S' ≤ Phc S0 + kc) (g2 : slots + Phs S' ≤ Phs S0 + ks) (hp : post S') (hdg : decode cc pc = .ok (.return_, 1)) : W p l e R s m args below meth c H locs cells slots (MQ below (va_Qv post (Bg G cy S0 s.heap.size (hs s.heap) kc ks) (AS S0 s.heap.size)) args s mc ms (AS S0 s.heap.size)) (F0 m pc ls []) := by
  refine W.know (fun k0 k1 k2 k3 => ?_)
  refine W.widen h1 h2 ?_
  exact W.vret X.1 X.2.1 hr (fun t ht hW => ⟨⟨S', rfl, hp, ⟨by rw [ht]; exact hw.1, hw.2.1⟩, by rw [ht]; omega, by rw [ht]; omega⟩, hw.2.2.F ht⟩) hw.2.2.2.2 hdg hlocks
theorem ret_gqA {S0 S' : PS} {post : Option Nat → PS → Prop} {v : Value} {mc ms : Nat} {ty : FieldType} (r : Option Nat) (hv : va_rf r = v) (X : Cx p c cc nL s args Ts own m G cy κ (AS S0 s.heap.size)) (hw : Wd G cy (AS S0 s.heap.size) s.heap S' H locs) (hr : meth.sig.returnType = some (.array ty)) (hlocks : meth.locks = false) (h1 : cells ≤ mc) (h2 : slots ≤ ms) (g1 : cells + Phc S' ≤ Phc S0 + kc) (g2 : slots + Phs S' ≤ Phs S0 + ks) (hp : post r S') (hdg : decode cc pc = .ok (.areturn, 1)) : W p l e R s m args below meth c H locs cells slots (MQ below (va_Qq post (Bg G cy S0 s.heap.size (hs s.heap) kc ks) (AS S0 s.heap.size)) args s mc ms (AS S0 s.heap.size)) (F0 m pc ls [v]) := by
  refine W.know (fun k0 k1 k2 k3 => ?_)
  refine W.widen h1 h2 ?_
  subst hv
  exact W.aret X.1 X.2.1 hr (Or.inr ⟨ty, rfl⟩) (va_rf_or r) (fun t ht hW => ⟨⟨r, S', rfl, hp, ⟨by rw [ht]; exact hw.1, hw.2.1⟩, by rw [ht]; omega, by rw [ht]; omega⟩, hw.2.2.F ht⟩) hw.2.2.2.2 hdg hlocks
theorem pg_blind {av : List Value} {sz hz : Nat} : FrameBlind (va_Pc av (Pg G cy κ S sz hz)) := fun a U g mk q => by
  obtain ⟨q0, q1, q2⟩ := q
  exact ⟨q0, (pw_blind (G := G) (cy := cy) (κ := κ) (S := S) (av := av) (sz := sz) a U g mk ⟨q0, q1⟩).2, q2⟩
theorem pre_gS (X : Cx p c cc nL s args Ts own m G cy κ A) (hw : Wd G cy A s.heap S H locs) (av : List Value) : PreS s H (va_Pc av (Pg G cy κ S H.size (hs H))) av := ⟨pg_blind, fun U hU hW => ⟨rfl, pw_of X hw hU hW, by rw [hU]⟩⟩
theorem pre_gV (X : Cx p c cc nL s args Ts own m G cy κ A) (hw : Wd G cy A s.heap S H locs) (av : List Value) {b : Nat} (ha : At S b k0) (hm : k0 % 20 = k) (hk : k < 13) {q : vw_C} (hc : vwCl[k]? = some q) : PreV s H q.1 b (va_Pc (.ref b :: av) (Pg G cy κ S H.size (hs H))) av := by
  obtain ⟨n, hn⟩ := pl_get (cy := cy) ha.1
  rw [PF_O ha.2 hm hk] at hn
  exact ⟨pg_blind, va_recv X.2.2.2.2.2.1 hw.1 hc hn, fun U hU hW => ⟨rfl, pw_of X hw hU hW, by rw [hU]⟩⟩
theorem k_gi {rm : Room} {av : List Value} {post : Int32 → PS → Prop} {st0 : List Value} (X : Cx p c cc nL s args Ts own m G cy κ A) (hw : Wd G cy A s.heap S H locs) (hrun : va_Run p l e R s m args below meth c H locs cells slots rm.cells rm.slots (F0 m pc ls st0) rest (va_Qi post (Bg G cy S H.size (hs H) kc ks) (AS S H.size) av.toArray) (AS S H.size))
    (kk : ∀ (r : Int32) (S' : PS) (H1 : Heap) (locs1 : List Loc) (c2 n2 : Nat), c2 + Phc S' = cells + Phc S + kc → n2 + Phs S' = slots + Phs S + ks → post r S' → Wd G cy A s.heap S' H1 locs1 → W p l e R s m args below meth c H1 locs1 c2 n2 Q (F0 m (pc + 3) ls (.int r :: rest))) : W p l e R s m args below meth c H locs cells slots Q (F0 m pc ls st0) := by
  refine W.know (fun a0 a1 a2 a3 => ?_)
  refine va_calli hrun hw.2.2 (fun q _ h => as_in X hw q h) (as_in X hw) (fun r S' t H1 locs1 ht hvm hp hB hz hk hS => ?_)
  obtain ⟨hB1, hB2, hB3⟩ := hB
  rw [ht] at hB2 hB3
  refine W.know (fun b0 b1 b2 b3 => ?_)
  exact W.narrow (k := cells + Phc S + kc - Phc S') (n := slots + Phs S + ks - Phs S') (by omega) (by omega) (kk r S' H1 locs1 _ _ (by omega) (by omega) hp (bw_of X hw ht hB1 hS))
theorem k_gv {rm : Room} {av : List Value} {post : PS → Prop} {st0 : List Value} (X : Cx p c cc nL s args Ts own m G cy κ A) (hw : Wd G cy A s.heap S H locs) (hrun : va_Run p l e R s m args below meth c H locs cells slots rm.cells rm.slots (F0 m pc ls st0) rest (va_Qv post (Bg G cy S H.size (hs H) kc ks) (AS S H.size) av.toArray) (AS S H.size))
    (kk : ∀ (S' : PS) (H1 : Heap) (locs1 : List Loc) (c2 n2 : Nat), c2 + Phc S' = cells + Phc S + kc → n2 + Phs S' = slots + Phs S + ks → post S' → Wd G cy A s.heap S' H1 locs1 → W p l e R s m args below meth c H1 locs1 c2 n2 Q (F0 m (pc + 3) ls rest)) : W p l e R s m args below meth c H locs cells slots Q (F0 m pc ls st0) := by
  refine W.know (fun a0 a1 a2 a3 => ?_)
  refine va_callv hrun hw.2.2 (fun q _ h => as_in X hw q h) (as_in X hw) (fun S' t H1 locs1 ht hvm hp hB hz hk hS => ?_)
  obtain ⟨hB1, hB2, hB3⟩ := hB
  rw [ht] at hB2 hB3
  refine W.know (fun b0 b1 b2 b3 => ?_)
  exact W.narrow (k := cells + Phc S + kc - Phc S') (n := slots + Phs S + ks - Phs S') (by omega) (by omega) (kk S' H1 locs1 _ _ (by omega) (by omega) hp (bw_of X hw ht hB1 hS))
end GCALLS
/-! ===== constructors: all but q is as it was ===== -/
def Kq (S S' : PS) (q : Nat) : Prop := ∀ a ∈ pL S, a ∈ pL S' ∧ (a ≠ q → pK S' a = pK S a ∧ (∀ g, pI S' g a = pI S g a) ∧ (∀ g, pR S' g a = pR S g a) ∧ pN S' a = pN S a ∧ pA S' a = pA S a ∧ pB S' a = pB S a)
theorem Kq.rf (S : PS) (q : Nat) : Kq S S q := fun _ h => ⟨h, fun _ => ⟨rfl, fun _ => rfl, fun _ => rfl, rfl, rfl, rfl⟩⟩
theorem Kq.trans {S S1 S2 : PS} {q : Nat} (h : Kq S S1 q) (h' : Kq S1 S2 q) : Kq S S2 q := fun a ha => ⟨(h' a (h a ha).1).1, fun hn => by
  obtain ⟨a1, a2, a3, a4, a5, a6⟩ := (h a ha).2 hn
  obtain ⟨b1, b2, b3, b4, b5, b6⟩ := (h' a (h a ha).1).2 hn
  exact ⟨b1.trans a1, fun g => (b2 g).trans (a2 g), fun g => (b3 g).trans (a3 g), b4.trans a4, b5.trans a5, b6.trans a6⟩⟩
theorem Kq.sI {S0 S S1 : PS} {q g : Nat} {v : Int32} (h : Kq S0 S q) (e : S1 = sI S g q v) : Kq S0 S1 q := h.trans (fun a ha => by
  subst e
  exact ⟨ha, fun hn => ⟨rfl, fun _ => pI_sI_ne hn, fun _ => by rw [pR_sI], by rw [pN_sI], by rw [pA_sI], by rw [pB_sI]⟩⟩)
theorem Kq.sR {S0 S S1 : PS} {q g : Nat} {v : Option Nat} (h : Kq S0 S q) (e : S1 = sR S g q v) : Kq S0 S1 q := h.trans (fun a ha => by
  subst e
  exact ⟨ha, fun hn => ⟨rfl, fun _ => by rw [pI_sR], fun _ => u2_ne _ _ hn, by rw [pN_sR], by rw [pA_sR], by rw [pB_sR]⟩⟩)
theorem Kq.new {S0 S : PS} {q r : Nat} (h : Kq S0 S q) (hr : r ∉ pL S) : r ∉ pL S0 := fun z => hr (h r z).1
theorem Kq.sN {S0 S S1 : PS} {q r k n : Nat} (h : Kq S0 S q) (hr : r ∉ pL S) (e : S1 = sN S r k n) : Kq S0 S1 q := h.trans (fun a ha => by
  subst e
  have hne := ne_of_new hr ha
  exact ⟨List.mem_append_left _ ha, fun _ => ⟨if_neg hne, fun _ => by rw [pI_sN], fun _ => by rw [pR_sN], pN_sN_ne hne, pA_sN_ne hne, if_neg hne⟩⟩)
theorem Kq.sO {S0 S S1 : PS} {q r k : Nat} (h : Kq S0 S q) (hr : r ∉ pL S) (e : S1 = sO S r k) : Kq S0 S1 q := h.trans (fun a ha => by
  subst e
  have hne := ne_of_new hr ha
  exact ⟨List.mem_append_left _ ha, fun _ => ⟨if_neg hne, fun _ => pI_sO_ne hne, fun _ => pR_sO_ne hne, by rw [pN_sO], by rw [pA_sO], by rw [pB_sO]⟩⟩)
/-- a row or an object that is not of the first pool may change -/
theorem Kq.sA {S0 S S1 : PS} {q r : Nat} {f : Nat → Int32} (h : Kq S0 S q) (hr : r ∉ pL S0) (e : S1 = sA S r f) : Kq S0 S1 q := fun a ha => ⟨by subst e; exact (h a ha).1, fun hn => by
  subst e
  obtain ⟨a1, a2, a3, a4, a5, a6⟩ := (h a ha).2 hn
  exact ⟨a1, fun g => by rw [pI_sA]; exact a2 g, fun g => by rw [pR_sA]; exact a3 g, by rw [pN_sA]; exact a4, (pA_sA_ne (ne_of_new hr ha)).trans a5, by rw [pB_sA]; exact a6⟩⟩
theorem Kq.sB {S0 S S1 : PS} {q r : Nat} {f : Nat → Option Nat} (h : Kq S0 S q) (hr : r ∉ pL S0) (e : S1 = sB S r f) : Kq S0 S1 q := fun a ha => ⟨by subst e; exact (h a ha).1, fun hn => by
  subst e
  obtain ⟨a1, a2, a3, a4, a5, a6⟩ := (h a ha).2 hn
  exact ⟨a1, fun g => by rw [pI_sB]; exact a2 g, fun g => by rw [pR_sB]; exact a3 g, by rw [pN_sB]; exact a4, by rw [pA_sB]; exact a5, (if_neg (ne_of_new hr ha)).trans a6⟩⟩
/-- another's constructor, of an object that is not of the first pool -/
theorem Kq.sub {S0 S S1 : PS} {q r : Nat} (h : Kq S0 S q) (hr : r ∉ pL S0) (h' : Kq S S1 r) : Kq S0 S1 q := fun a ha => ⟨(h' a (h a ha).1).1, fun hn => by
  obtain ⟨a1, a2, a3, a4, a5, a6⟩ := (h a ha).2 hn
  obtain ⟨b1, b2, b3, b4, b5, b6⟩ := (h' a (h a ha).1).2 (ne_of_new hr ha)
  exact ⟨b1.trans a1, fun g => (b2 g).trans (a2 g), fun g => (b3 g).trans (a3 g), b4.trans a4, b5.trans a5, b6.trans a6⟩⟩
theorem Kq.sK {S0 S S1 : PS} {q k : Nat} (h : Kq S0 S q) (e : S1 = sK S q k) : Kq S0 S1 q := h.trans (fun a ha => by
  subst e
  exact ⟨ha, fun hn => ⟨if_neg hn, fun _ => rfl, fun _ => rfl, rfl, rfl, rfl⟩⟩)
theorem Kq.at {S S' : PS} {q a k k' : Nat} (h : Kq S S' q) (hq : At S q k') (ha : At S a k) (hn : k ≠ k') : At S' a k := ⟨(h a ha.1).1, ((h a ha.1).2 (At_ne ha hq hn)).1.trans ha.2⟩
theorem Kq_fr {S S' : PS} {q k : Nat} {S1 : PS} (hq : q ∉ pL S) (e : S1 = sO S q k) (h : Kq S1 S' q) (M : List Nat) : Fr M S S' := by
  subst e
  have z : ∀ a ∈ pL S, a ∈ pL (sO S q k) ∧ a ≠ q := fun a ha => ⟨List.mem_append_left _ ha, ne_of_new hq ha⟩
  refine ⟨fun a ha => ?_, fun g _ a ha => ?_, fun k' _ a ha _ => ?_⟩
  · obtain ⟨h1, h2⟩ := h a (z a ha).1
    obtain ⟨a1, a2, a3, a4, a5, a6⟩ := h2 (z a ha).2
    exact ⟨h1, a1.trans (if_neg (z a ha).2), a4⟩
  · obtain ⟨h1, h2⟩ := h a (z a ha).1
    obtain ⟨a1, a2, a3, a4, a5, a6⟩ := h2 (z a ha).2
    exact ⟨(a2 g).trans (pI_sO_ne (z a ha).2), (a3 g).trans (pR_sO_ne (z a ha).2)⟩
  · obtain ⟨h1, h2⟩ := h a (z a ha).1
    obtain ⟨a1, a2, a3, a4, a5, a6⟩ := h2 (z a ha).2
    exact ⟨a5, a6⟩
def noK (t : aTy) (k : Nat) : Bool := match t.1 with
  | 0 => true
  | 4 => true
  | 7 => !(14 == k)
  | 8 => !(16 == k)
  | _ => !(t.2.2.1 == k)
theorem aT_sK {S : PS} {a q k k0 : Nat} (hq : At S q k0) (hne : a ≠ q) : {t : aTy} → (hn : noK t k0 = true) → (ht : aT S a t) → aT (sK S q k) a t
  | (0, _, _, _, _), _, ht => ht
  | (1, _, _, _, _), hn, ht => by obtain ⟨r, h1, h2, h3⟩ := ht; exact ⟨r, h1, At_sK hq h2 (nbeq hn), h3⟩
  | (2, _, _, _, _), hn, ht => by obtain ⟨r, h1, h2⟩ := ht; exact ⟨r, h1, At_sK hq h2 (nbeq hn)⟩
  | (3, _, _, _, _), hn, ht => fun r hr => At_sK hq (ht r hr) (nbeq hn)
  | (4, _, _, _, _), _, ht => ht
  | (5, _, _, _, _), hn, ht => fun i r hr => At_sK hq (ht i r hr) (nbeq hn)
  | (6, _, _, _, _), hn, ht => by obtain ⟨r, h1, h2, h3⟩ := ht; exact ⟨r, h1, At_sK hq h2 (nbeq hn), h3⟩
  | (7, _, _, _, _), hn, ht => by
    have hn : 14 ≠ k0 := nbeq hn
    obtain ⟨q1, q2, q3, q4, n, a1, a2, a3, a4, b1, b2, b3, b4, r⟩ := ht
    exact ⟨q1, q2, q3, q4, n, a1, a2, a3, a4, At_sK hq b1 hn, At_sK hq b2 hn, At_sK hq b3 hn, At_sK hq b4 hn, r⟩
  | (8, _, _, _, _), hn, ht => by
    have hn : 16 ≠ k0 := nbeq hn
    obtain ⟨r, n, a1, b1, z⟩ := ht
    exact ⟨r, n, a1, At_sK hq b1 hn, z⟩
  | (_ + 9, _, _, _, _), _, _ => trivial
theorem GX_sK {S : PS} {q k k0 : Nat} (hG : GX S) (hq : At S q k0) (hn : ∀ t ∈ TL, noK t.2 k0 = true) (ho : OK (sK S q k) q k) : GX (sK S q k) := fun b hb => by
  by_cases e : b = q
  · subst e; rw [show pK (sK S b k) b = k from if_pos rfl]; exact ho
  · rw [show pK (sK S q k) b = pK S b from if_neg e]
    exact fun t ht e2 => aT_sK hq e (hn t ht) (hG b hb t ht e2)
theorem Og.sO {M : List Nat} {S0 S S1 : PS} {q k : Nat} (h : Og M S0 S) (hq : q ∉ pL S) (e : S1 = sO S q k) (hn : ∀ t ∈ TL, ¬ t.1 = k) : Og M S0 S1 := by subst e; exact ⟨GX_O h.1 hq hn, h.2.trans (Fr_sO hq)⟩
theorem Og_ctor {M : List Nat} {S0 S S1 S2 : PS} {q k : Nat} (h : Og M S0 S) (hq : q ∉ pL S) (e : S1 = sO S q k) (hk : Kq S1 S2 q) (hg : GX S2) : Og M S0 S2 := ⟨hg, h.2.trans (Kq_fr hq e hk M)⟩
theorem ph_sK0 {f : Nat → Nat} {c8 c11 : Nat} {S : PS} {q k b : Nat} (hne : b ≠ q) : ph f c8 c11 (sK S q k) b = ph f c8 c11 S b := ph_congr (if_neg hne) rfl rfl rfl (fun _ _ _ => rfl)
theorem Ph_sK {f : Nat → Nat} {c8 c11 : Nat} {S S1 : PS} {q k k0 : Nat} (hd : (pL S).Nodup) (hq : At S q k0) (hk : Nat.beq k0 29 = false ∧ Nat.beq k0 8 = false ∧ Nat.beq k0 11 = false) (e : S1 = sK S q k) : Ph f c8 c11 S1 = Ph f c8 c11 S + ph f c8 c11 S1 q := by
  subst e
  have h := Ph_one (f := f) (c8 := c8) (c11 := c11) (S := S) (S' := sK S q k) hd hq.1 rfl (fun b _ hne => ph_sK0 hne)
  have : ph f c8 c11 S q = 0 := by
    unfold ph
    rw [hq.2, if_neg (Nat.ne_of_beq_eq_false hk.1), if_neg (Nat.ne_of_beq_eq_false hk.2.1), if_neg (Nat.ne_of_beq_eq_false hk.2.2)]
  omega
theorem ph_0 {f : Nat → Nat} {c8 c11 : Nat} {S : PS} {q k : Nat} (h : At S q k) (hk : Nat.beq k 29 = false ∧ Nat.beq k 8 = false ∧ Nat.beq k 11 = false) : ph f c8 c11 S q = 0 := by
  unfold ph
  rw [h.2, if_neg (Nat.ne_of_beq_eq_false hk.1), if_neg (Nat.ne_of_beq_eq_false hk.2.1), if_neg (Nat.ne_of_beq_eq_false hk.2.2)]
theorem ph_29 {f : Nat → Nat} {c8 c11 : Nat} {S : PS} {q c n : Nat} (h : At S q 29) (hc : pR S 905 q = some c) (hn : pN S c = n) : ph f c8 c11 S q = f n := by
  unfold ph; rw [h.2, if_pos rfl, hc]; show f (pN S c) = f n; rw [hn]
theorem Ph_rawI {f : Nat → Nat} {c8 c11 : Nat} {S S1 : PS} {g a k : Nat} {v : Int32} (ha : At S a k) (hk : Nat.beq k 29 = false ∧ Nat.beq k 8 = false ∧ Nat.beq k 11 = false) (e : S1 = sI S g a v) : Ph f c8 c11 S1 = Ph f c8 c11 S := by
  subst e
  refine Ph_congr rfl (fun b _ => ?_)
  by_cases hb : b = a
  · subst hb; rw [ph_0 (S := sI S g b v) (At_sI ha) hk, ph_0 ha hk]
  · exact ph_congr rfl (pI_sI_ne hb) (pI_sI_ne hb) (by rw [pR_sI]) (fun _ _ _ => by rw [pN_sI])
theorem Ph_rawR {f : Nat → Nat} {c8 c11 : Nat} {S S1 : PS} {g a k : Nat} {v : Option Nat} (ha : At S a k) (hk : Nat.beq k 29 = false ∧ Nat.beq k 8 = false ∧ Nat.beq k 11 = false) (e : S1 = sR S g a v) : Ph f c8 c11 S1 = Ph f c8 c11 S := by
  subst e
  refine Ph_congr rfl (fun b _ => ?_)
  by_cases hb : b = a
  · subst hb; rw [ph_0 (S := sR S g b v) (At_sR ha) hk, ph_0 ha hk]
  · exact ph_congr rfl (by rw [pI_sR]) (by rw [pI_sR]) (by show u2 (pR S) g a v 905 b = pR S 905 b; exact u2_ne _ _ hb) (fun _ _ _ => by rw [pN_sR])
/-! ===== rows of a strand that grows: all that is asked of a pool while one is changed ===== -/
def CI (S : PS) : Prop := ∀ b ∈ pL S, pK S b = 29 → ∀ q, pR S 905 b = some q → q ∈ pL S
theorem GX.ci {S : PS} (hG : GX S) : CI S := fun _ hb hk _ hq => codes_in hG hb hk hq
theorem CI_sN {S S1 : PS} {q k n : Nat} (h : CI S) (hq : q ∉ pL S) (hk : Nat.beq k 29 = false) (e : S1 = sN S q k n) : CI S1 := by
  subst e
  intro b hb hk2 r hr
  rcases List.mem_append.mp hb with z | z
  · have hne := ne_of_new hq z
    rw [show pK (sN S q k n) b = pK S b from if_neg hne] at hk2
    rw [pR_sN] at hr
    exact List.mem_append_left _ (h b z hk2 r hr)
  · have e : b = q := List.mem_singleton.mp z
    subst e
    rw [show pK (sN S b k n) b = k from if_pos rfl] at hk2
    exact absurd hk2 (Nat.ne_of_beq_eq_false hk)
theorem CI_sA {S S1 : PS} {a : Nat} {f : Nat → Int32} (h : CI S) (e : S1 = sA S a f) : CI S1 := by subst e; exact h
theorem CI_sR {S S1 : PS} {a g q : Nat} (h : CI S) (hq : q ∈ pL S) (e : S1 = sR S g a (some q)) : CI S1 := by
  subst e
  intro b hb hk r hr
  have hr' : u2 (pR S) g a (some q) 905 b = some r := hr
  unfold u2 at hr'
  split at hr'
  · split at hr'
    · cases hr'; exact hq
    · exact h b hb hk r hr'
  · exact h b hb hk r hr'
theorem Ph_sN' {f : Nat → Nat} {c8 c11 : Nat} {S S1 : PS} {q k n : Nat} (hC : CI S) (hq : q ∉ pL S) (e : S1 = sN S q k n) (hk : Nat.beq k 29 = false ∧ Nat.beq k 8 = false ∧ Nat.beq k 11 = false) : Ph f c8 c11 S1 = Ph f c8 c11 S := by
  subst e
  have h1 := Ph_push (f := f) (c8 := c8) (c11 := c11) (S := S) (S' := sN S q k n) rfl (fun b hb => by
    have hne := ne_of_new hq hb
    exact ph_congr (if_neg hne) (by rw [pI_sN]) (by rw [pI_sN]) (by rw [pR_sN]) (fun c hc hr => pN_sN_ne (ne_of_new hq (hC b hb hc c hr))))
  rw [h1]
  have e2 : pK (sN S q k n) q = k := if_pos rfl
  have : ph f c8 c11 (sN S q k n) q = 0 := by
    unfold ph
    rw [e2, if_neg (Nat.ne_of_beq_eq_false hk.1), if_neg (Nat.ne_of_beq_eq_false hk.2.1), if_neg (Nat.ne_of_beq_eq_false hk.2.2)]
  omega
theorem Ph_905 {f : Nat → Nat} {c8 c11 : Nat} {S S1 : PS} {a q c n r : Nat} (hd : (pL S).Nodup) (ha : At S a 29) (hc : pR S 905 a = some c) (hn : pN S c = n) (hr : pN S q = r) (e : S1 = sR S 905 a (some q)) : Ph f c8 c11 S1 + f n = Ph f c8 c11 S + f r := by
  subst e
  have h := Ph_one (f := f) (c8 := c8) (c11 := c11) (S := S) (S' := sR S 905 a (some q)) hd ha.1 rfl (fun b _ hne => ph_congr rfl rfl rfl (by show u2 (pR S) 905 a (some q) 905 b = pR S 905 b; exact u2_ne _ _ hne) (fun _ _ _ => rfl))
  rw [ph_29 ha hc hn, ph_29 (S := sR S 905 a (some q)) (c := q) (n := r) (At_sR ha) pR_sR_same (by rw [pN_sR]; exact hr)] at h
  exact h
/-- an object's fields have changed, rows without conditions have come: all keep what they kept -/
theorem GX_ofKq {S0 S : PS} {x k : Nat} (hG : GX S0) (hx : At S0 x k) (hx' : At S x k) (hN : pN S x = pN S0 x) (hk : Kq S0 S x) (ho : OK S x k) (hnew : ∀ q ∈ pL S, q ∉ pL S0 → pK S q = 14) : GX S := fun b hb => by
  have hE : Ext S0 S := fun a ha => by
    by_cases e : a = x
    · subst e; exact ⟨hx'.1, hx'.2.trans hx.2.symm, hN⟩
    · exact ⟨(hk a ha).1, ((hk a ha).2 e).1, ((hk a ha).2 e).2.2.2.1⟩
  by_cases e : b = x
  · subst e; rw [hx'.2]; exact ho
  · by_cases h0 : b ∈ pL S0
    · obtain ⟨a1, a2, a3, a4, a5, a6⟩ := (hk b h0).2 e
      rw [a1]
      exact OK_sm ⟨hE, a2, a3, a5, a6⟩ (hG b h0)
    · rw [hnew b hb h0]
      exact fun t ht e2 => absurd e2 ((by decide +kernel : ∀ t ∈ TL, ¬ t.1 = 14) t ht)
theorem GX_rawI {S : PS} {a k g : Nat} {v : Int32} (hG : GX S) (ha : At S a k) (hn : ∀ t ∈ TL, ¬ t.1 = k) : GX (sI S g a v) := GX_sI hG ha (fun t ht e => absurd e (hn t ht))
theorem GX_rawR {S : PS} {a k g : Nat} {v : Option Nat} (hG : GX S) (ha : At S a k) (hn : ∀ t ∈ TL, ¬ t.1 = k) : GX (sR S g a v) := GX_sR hG ha (fun t ht e => absurd e (hn t ht))
/-! ===== a copy of a row ===== -/
def Cpy (S S' : PS) (q n : Nat) : Prop := q ∉ pL S ∧ Kq S S' q ∧ At S' q 14 ∧ pN S' q = n ∧ CI S' ∧ Phc S' = Phc S ∧ Phs S' = Phs S ∧ (∀ b ∈ pL S', b ∈ pL S ∨ b = q) ∧ (GX S → GX S')
theorem Cpy_of {S S1 S2 : PS} {q n : Nat} {f : Nat → Int32} (hC : CI S) (hq : q ∉ pL S) (e1 : S1 = sN S q 14 n) (e2 : S2 = sA S1 q f) : Cpy S S2 q n := by
  have hk : Nat.beq 14 29 = false ∧ Nat.beq 14 8 = false ∧ Nat.beq 14 11 = false := by decide
  have k1 : Kq S S1 q := (Kq.rf S q).sN hq e1
  have h1 : At S1 q 14 := by rw [e1]; exact At_nN _ _ _ _
  refine ⟨hq, k1.sA hq e2, tAt_sA e2 h1, tN_sA e2 (by rw [e1]; exact pN_sN_new), CI_sA (CI_sN hC hq (by decide) e1) e2, ?_, ?_, ?_, ?_⟩
  · exact (Ph_sA e2).trans (Ph_sN' hC hq e1 hk)
  · exact (Ph_sA e2).trans (Ph_sN' hC hq e1 hk)
  · intro b hb
    rw [e2, pL_sA, e1] at hb
    rcases List.mem_append.mp hb with z | z
    · exact Or.inl z
    · exact Or.inr (List.mem_singleton.mp z)
  · intro hG
    have g1 : GX S1 := by rw [e1]; exact GX_N hG hq (by decide +kernel)
    rw [e2]; exact uA_14 g1 h1
def Cp9 (S S' : PS) (q n : Nat) : Prop := q ∉ pL S ∧ Kq S S' q ∧ At S' q 1654 ∧ pN S' q = n ∧ CI S' ∧ Phc S' = Phc S ∧ Phs S' = Phs S ∧ (∀ b ∈ pL S', b ∈ pL S ∨ b = q) ∧ (GX S → GX S')
theorem Cp9_of {S S1 S2 : PS} {q n : Nat} {f : Nat → Int32} (hC : CI S) (hq : q ∉ pL S) (e1 : S1 = sN S q 1654 n) (e2 : S2 = sA S1 q f) : Cp9 S S2 q n := by
  have hk : Nat.beq 1654 29 = false ∧ Nat.beq 1654 8 = false ∧ Nat.beq 1654 11 = false := by decide
  have k1 : Kq S S1 q := (Kq.rf S q).sN hq e1
  have h1 : At S1 q 1654 := by rw [e1]; exact At_nN _ _ _ _
  refine ⟨hq, k1.sA hq e2, tAt_sA e2 h1, tN_sA e2 (by rw [e1]; exact pN_sN_new), CI_sA (CI_sN hC hq (by decide) e1) e2, ?_, ?_, ?_, ?_⟩
  · exact (Ph_sA e2).trans (Ph_sN' hC hq e1 hk)
  · exact (Ph_sA e2).trans (Ph_sN' hC hq e1 hk)
  · intro b hb
    rw [e2, pL_sA, e1] at hb
    rcases List.mem_append.mp hb with z | z
    · exact Or.inl z
    · exact Or.inr (List.mem_singleton.mp z)
  · intro hG
    have g1 : GX S1 := by rw [e1]; exact GX_N hG hq (by decide +kernel)
    rw [e2]; exact uA_1654 g1 h1
def CyI (S T : PS) (x q n0 nq : Nat) : Prop := ∀ i, i < n0 → i < nq → pA T q i = pA S x i
theorem CyI_of {S S1 S2 : PS} {x q k n0 nq N s0 d0 : Nat} (hx : x ∈ pL S) (hq : q ∉ pL S) (e1 : S1 = sN S q k nq) (e2 : S2 = sA S1 q (va_cpy (pA S1 x) (pA S1 q) s0 d0 N)) (hs : s0 = 0) (hd : d0 = 0) (hN : ∀ i, i < n0 → i < nq → i < N) : CyI S S2 x q n0 nq := fun i h1 h2 => by
  have e : pA S2 q = va_cpy (pA S1 x) (pA S1 q) s0 d0 N := by rw [e2]; exact if_pos rfl
  have h3 := hN i h1 h2
  rw [e]
  unfold va_cpy
  rw [if_pos ⟨by omega, by omega⟩, hs, hd, Nat.zero_add, Nat.sub_zero, e1, pA_sN_ne (ne_of_new hq hx)]
section CLONE
variable {p : Program} {l : Launch} {e : Env} {R : Room} {s : State} {m : MethodId} {args : Array Value} {below : List Frame} {meth : Method} {c : Code} {H : Heap} {locs : List Loc} {cells slots : Nat} {Q : State → Prop}
variable {cc : ByteArray} {pc nL : Nat} {ls : Array Slot} {rest : List Value} {Ts : List Cond} {own ref : String} {G : va_G} {cy : Nat → ClassId} {κ : Nat → Nat} {A : Nat → Prop} {S : PS} {a k0 k index : Nat}
theorem find_I (X : Cx p c cc nL s args Ts own m G cy κ A) : s.vm.findClass "[I" = some (cy 1) := (X.2.2.2.2.2.1.2 1 (cy 1, .int) rfl).2
theorem r_clone (X : Cx p c cc nL s args Ts own m G cy κ A) (hw : Wd G cy A s.heap S H locs) {lv : List (Nat × Value)} (hl : lv_has ls nL lv) (ha : At S a k0) (hm : k0 % 20 = 14) (hlink : (Cond.methodLink own index ⟨"[I", "clone", "()Ljava/lang/Object;"⟩).before args s = true) (hsame : (Cond.sameMethod "[I" "java/lang/Object" "clone" "()Ljava/lang/Object;").before args s = true)
    (hnat : (Cond.native ⟨"java/lang/Object", "clone", "()Ljava/lang/Object;"⟩).before args s = true) (hinst : (Cond.instanceMethod ⟨"java/lang/Object", "clone", "()Ljava/lang/Object;"⟩).before args s = true)
    (hsel : (Cond.selects "[I" ⟨"[I", "clone", "()Ljava/lang/Object;"⟩ ⟨"java/lang/Object", "clone", "()Ljava/lang/Object;"⟩).before args s = true) (hframes : 1 ≤ R.frames) (hlocals : (rest.map fun v => v.category).sum + 14 ≤ R.locals) (hcells : cells + 1 ≤ R.cells) (hslots : slots + pN S a ≤ R.slots) (hdg : decode cc pc = .ok (.invokevirtual index, 3))
    (kk : ∀ (q : Nat) (H1 : Heap), q ∉ pL S → Wd G cy A s.heap (sA (sN S q 14 (pN S a)) q (pA S a)) H1 locs → W p l e R s m args below meth c H1 locs (cells + 1) (slots + pN S a) Q (F0 m (pc + 3) ls (.ref q :: rest))) : W p l e R s m args below meth c H locs cells slots Q (F0 m pc ls (.ref a :: rest)) := by
  have hnm := find_I X
  obtain ⟨hx, hb, hml, hts, hown, hK, hA, hNG, -⟩ := X
  obtain ⟨hP, hD, hS⟩ := hw
  obtain ⟨n, hn⟩ := pl_get (cy := cy) ha.1
  rw [PF_A ha.2 hm (by decide) (by decide)] at hn
  refine va_clone (D := G) (ty := .int) hx hb (hml.trans hl.1.symm) hown hlink hsame hnat hinst hsel hNG.2.2.2.2.2 hK hP hD hS hA n 1 hn rfl hnm ?_ hframes hlocals hcells hslots hdg (fun q H1 hK1 hP1 hD1 hS1 => ?_)
  · intro i v hv
    have h1 : i < pN S a := by
      have := (Array.getElem?_eq_some_iff.mp hv).1
      rw [vp_cell_i, arrV_size] at this; exact this
    rw [vp_cell_i, arrV_read _ _ h1] at hv
    cases hv; rfl
  · have hq : q ∉ pL S := pl_fresh hD1
    have hF : ∀ b, va_up (PF cy S) q (.inl (cy 1, pN S a, .inl (pA S a))) b = PF cy (sA (sN S q 14 (pN S a)) q (pA S a)) b := by
      intro b
      by_cases hb2 : b = q
      · subst hb2
        rw [PF_A (S := sA (sN S b 14 (pN S a)) b (pA S a)) (k := 14) (At_sA (At_nN _ _ _ _)).2 rfl (by decide) (by decide)]
        simp [va_up, sA, sN, pA, pN]
      · rw [PF_congr (S := S) (S' := sA (sN S q 14 (pN S a)) q (pA S a)) (by simp [sA, sN, pK, va_up, hb2]) (fun _ => rfl) (fun _ => rfl) (by simp [sA, sN, pN, va_up, hb2]) (by simp [sA, sN, pA, va_up, hb2]) (by simp [sA, sN, pB, va_up, hb2])]; simp [va_up, hb2]
    rw [pl_push (S' := sA (sN S q 14 (pN S a)) q (pA S a)) hq rfl hF] at hP1 hD1
    exact kk q H1 hq ⟨hP1, hD1, hS1⟩
theorem r_clone9 (X : Cx p c cc nL s args Ts own m G cy κ A) (hw : Wd G cy A s.heap S H locs) {lv : List (Nat × Value)} (hl : lv_has ls nL lv) (ha : At S a k0) (hm : k0 % 20 = 14) (hlink : (Cond.methodLink own index ⟨"[I", "clone", "()Ljava/lang/Object;"⟩).before args s = true) (hsame : (Cond.sameMethod "[I" "java/lang/Object" "clone" "()Ljava/lang/Object;").before args s = true)
    (hnat : (Cond.native ⟨"java/lang/Object", "clone", "()Ljava/lang/Object;"⟩).before args s = true) (hinst : (Cond.instanceMethod ⟨"java/lang/Object", "clone", "()Ljava/lang/Object;"⟩).before args s = true)
    (hsel : (Cond.selects "[I" ⟨"[I", "clone", "()Ljava/lang/Object;"⟩ ⟨"java/lang/Object", "clone", "()Ljava/lang/Object;"⟩).before args s = true) (hframes : 1 ≤ R.frames) (hlocals : (rest.map fun v => v.category).sum + 14 ≤ R.locals) (hcells : cells + 1 ≤ R.cells) (hslots : slots + pN S a ≤ R.slots) (hdg : decode cc pc = .ok (.invokevirtual index, 3))
    (kk : ∀ (q : Nat) (H1 : Heap), q ∉ pL S → Wd G cy A s.heap (sA (sN S q 1654 (pN S a)) q (pA S a)) H1 locs → W p l e R s m args below meth c H1 locs (cells + 1) (slots + pN S a) Q (F0 m (pc + 3) ls (.ref q :: rest))) : W p l e R s m args below meth c H locs cells slots Q (F0 m pc ls (.ref a :: rest)) := by
  have hnm := find_I X
  obtain ⟨hx, hb, hml, hts, hown, hK, hA, hNG, -⟩ := X
  obtain ⟨hP, hD, hS⟩ := hw
  obtain ⟨n, hn⟩ := pl_get (cy := cy) ha.1
  rw [PF_A ha.2 hm (by decide) (by decide)] at hn
  refine va_clone (D := G) (ty := .int) hx hb (hml.trans hl.1.symm) hown hlink hsame hnat hinst hsel hNG.2.2.2.2.2 hK hP hD hS hA n 1 hn rfl hnm ?_ hframes hlocals hcells hslots hdg (fun q H1 hK1 hP1 hD1 hS1 => ?_)
  · intro i v hv
    have h1 : i < pN S a := by
      have := (Array.getElem?_eq_some_iff.mp hv).1
      rw [vp_cell_i, arrV_size] at this; exact this
    rw [vp_cell_i, arrV_read _ _ h1] at hv
    cases hv; rfl
  · have hq : q ∉ pL S := pl_fresh hD1
    have hF : ∀ b, va_up (PF cy S) q (.inl (cy 1, pN S a, .inl (pA S a))) b = PF cy (sA (sN S q 1654 (pN S a)) q (pA S a)) b := by
      intro b
      by_cases hb2 : b = q
      · subst hb2
        rw [PF_A (S := sA (sN S b 1654 (pN S a)) b (pA S a)) (k := 1654) (At_sA (At_nN _ _ _ _)).2 rfl (by decide) (by decide)]
        simp [va_up, sA, sN, pA, pN]
      · rw [PF_congr (S := S) (S' := sA (sN S q 1654 (pN S a)) q (pA S a)) (by simp [sA, sN, pK, va_up, hb2]) (fun _ => rfl) (fun _ => rfl) (by simp [sA, sN, pN, va_up, hb2]) (by simp [sA, sN, pA, va_up, hb2]) (by simp [sA, sN, pB, va_up, hb2])]; simp [va_up, hb2]
    rw [pl_push (S' := sA (sN S q 1654 (pN S a)) q (pA S a)) hq rfl hF] at hP1 hD1
    exact kk q H1 hq ⟨hP1, hD1, hS1⟩
theorem r_castI (X : Cx p c cc nL s args Ts own m G cy κ A) (hw : Wd G cy A s.heap S H locs) (ha : At S a k0) (hm : k0 % 20 = 14) (hlink : (Cond.classLink own index "[I").before args s = true) (hdg : decode cc pc = .ok (.checkcast index, 3))
    (kk : W p l e R s m args below meth c H locs cells slots Q (F0 m (pc + 3) ls (.ref a :: rest))) : W p l e R s m args below meth c H locs cells slots Q (F0 m pc ls (.ref a :: rest)) := by
  have hnm := find_I X
  obtain ⟨hx, hb, hml, hts, hown, hK, hA, hNG, -⟩ := X
  obtain ⟨n, hn⟩ := pl_get (cy := cy) ha.1
  rw [PF_A ha.2 hm (by decide) (by decide)] at hn
  exact va_castA (D := G) hx hb hown hlink hw.1 n hn hnm hdg kk
end CLONE
theorem Og_ctor2 {M : List Nat} {S0 S1 S2 : PS} {q : Nat} (h : Og M S0 S1) (hq : q ∉ pL S0) (hk : Kq S1 S2 q) (hg : GX S2) : Og M S0 S2 := by
  refine ⟨hg, fun a ha => ?_, fun g hgM a ha => ?_, fun k hkM a ha e => ?_⟩
  · have z := h.2.1 a ha
    obtain ⟨a1, a2, a3, a4, a5, a6⟩ := (hk a z.1).2 (ne_of_new hq ha)
    exact ⟨(hk a z.1).1, a1.trans z.2.1, a4.trans z.2.2⟩
  · have z := h.2.1 a ha
    obtain ⟨a1, a2, a3, a4, a5, a6⟩ := (hk a z.1).2 (ne_of_new hq ha)
    have w := h.2.2.1 g hgM a ha
    exact ⟨(a2 g).trans w.1, (a3 g).trans w.2⟩
  · have z := h.2.1 a ha
    obtain ⟨a1, a2, a3, a4, a5, a6⟩ := (hk a z.1).2 (ne_of_new hq ha)
    have w := h.2.2.2 k hkM a ha e
    exact ⟨a5.trans w.1, a6.trans w.2⟩
theorem NewA.step {S0 S S' : PS} {q n : Nat} (h : ∀ b ∈ pL S, b ∈ pL S0 ∨ pK S b = 14) (hc : Cpy S S' q n) : ∀ b ∈ pL S', b ∈ pL S0 ∨ pK S' b = 14 := fun b hb => by
  rcases hc.2.2.2.2.2.2.2.1 b hb with z | z
  · rcases h b z with y | y
    · exact Or.inl y
    · exact Or.inr ((((hc.2.1 b z).2 (ne_of_new hc.1 z)).1).trans y)
  · subst z; exact Or.inr hc.2.2.1.2
theorem z_tn {x : Int32} {n : Nat} (hx : x.toInt = (n : Int)) (h : 0 ≤ x.toInt) : x.toNatClampNeg = n := by
  have := z_nat rfl h
  omega
theorem ph_8 {f : Nat → Nat} {c8 c11 : Nat} {S : PS} {q : Nat} (h : At S q 8) (hv : pI S 800 q = 0) : ph f c8 c11 S q = 40 * c8 := by
  unfold ph; rw [h.2, if_neg (by decide), if_pos rfl, hv]; rfl
theorem ph_11 {f : Nat → Nat} {c8 c11 : Nat} {S : PS} {q : Nat} (h : At S q 11) (hv : pI S 1104 q = 0) : ph f c8 c11 S q = 4 * c11 := by
  unfold ph; rw [h.2, if_neg (by decide), if_neg (by decide), if_pos rfl, hv]; rfl
theorem ret_qA {p : Program} {l : Launch} {e : Env} {R : Room} {s : State} {m : MethodId} {args : Array Value} {below : List Frame} {meth : Method} {c : Code} {H : Heap} {locs : List Loc} {cells slots : Nat} {cc : ByteArray} {pc nL : Nat} {ls : Array Slot} {Ts : List Cond} {own : String} {G : va_G} {cy : Nat → ClassId} {κ : Nat → Nat} {S0 S' : PS} {post : Option Nat → PS → Prop} {v : Value} {mc ms : Nat} {ty : FieldType} (r : Option Nat) (hv : va_rf r = v) (X : Cx p c cc nL s args Ts own m G cy κ (AS S0 s.heap.size)) (hw : Wd G cy (AS S0 s.heap.size) s.heap S' H locs) (hr : meth.sig.returnType = some (.array ty)) (hlocks : meth.locks = false) (h1 : cells ≤ mc) (h2 : slots ≤ ms) (hp : post r S') (hdg : decode cc pc = .ok (.areturn, 1)) : W p l e R s m args below meth c H locs cells slots (MQ below (va_Qq post (Bw G cy S0 s.heap.size) (AS S0 s.heap.size)) args s mc ms (AS S0 s.heap.size)) (F0 m pc ls [v]) := by
  refine W.widen h1 h2 ?_
  subst hv
  exact W.aret X.1 X.2.1 hr (Or.inr ⟨ty, rfl⟩) (va_rf_or r) (fun t ht hW => ⟨⟨r, S', rfl, hp, by rw [ht]; exact hw.1, hw.2.1⟩, hw.2.2.F ht⟩) hw.2.2.2.2 hdg hlocks
/-- an object whose fields but the strand's four rows are as they were -/
def Fx (S S' : PS) (x : Nat) : Prop := (∀ g, ([905, 906, 907, 908] : List Nat).contains g = false → pI S' g x = pI S g x ∧ pR S' g x = pR S g x) ∧ (∀ g, pI S' g x = pI S g x) ∧ pA S' x = pA S x ∧ pB S' x = pB S x
theorem Fx.rf (S : PS) (x : Nat) : Fx S S x := ⟨fun _ _ => ⟨rfl, rfl⟩, fun _ => rfl, rfl, rfl⟩
theorem Fx.sR {S0 S S1 : PS} {x g : Nat} {v : Option Nat} (h : Fx S0 S x) (e : S1 = sR S g x v) (hg : ([905, 906, 907, 908] : List Nat).contains g = true) : Fx S0 S1 x := by
  subst e
  refine ⟨fun f hf => ⟨by rw [pI_sR]; exact (h.1 f hf).1, ?_⟩, fun f => by rw [pI_sR]; exact h.2.1 f, by rw [pA_sR]; exact h.2.2.1, by rw [pB_sR]; exact h.2.2.2⟩
  have hne : f ≠ g := fun z => by rw [z, hg] at hf; cases hf
  rw [pR_sR_nf hne]; exact (h.1 f hf).2
theorem Fx.kq {S0 S S1 : PS} {x q : Nat} (h : Fx S0 S x) (hk : Kq S S1 q) (hx : x ∈ pL S) (hq : q ∉ pL S) : Fx S0 S1 x := by
  obtain ⟨a1, a2, a3, a4, a5, a6⟩ := (hk x hx).2 (ne_of_new hq hx)
  exact ⟨fun f hf => ⟨(a2 f).trans (h.1 f hf).1, (a3 f).trans (h.1 f hf).2⟩, fun f => (a2 f).trans (h.2.1 f), a5.trans h.2.2.1, a6.trans h.2.2.2⟩
theorem Fr_ofKq {M : List Nat} {S0 S : PS} {x k : Nat} (hx : At S0 x k) (hx' : At S x k) (hN : pN S x = pN S0 x) (hk : Kq S0 S x) (hf : Fx S0 S x) (hM : ∀ g ∈ ([905, 906, 907, 908] : List Nat), g ∈ M) : Fr M S0 S := by
  refine ⟨fun a ha => ?_, fun g hg a ha => ?_, fun k' _ a ha _ => ?_⟩
  · by_cases e : a = x
    · subst e; exact ⟨hx'.1, hx'.2.trans hx.2.symm, hN⟩
    · exact ⟨(hk a ha).1, ((hk a ha).2 e).1, ((hk a ha).2 e).2.2.2.1⟩
  · by_cases e : a = x
    · subst e
      refine hf.1 g ?_
      cases h : ([905, 906, 907, 908] : List Nat).contains g with
      | false => rfl
      | true => exact absurd (hM g (List.contains_iff_mem.mp h)) hg
    · exact ⟨((hk a ha).2 e).2.1 g, ((hk a ha).2 e).2.2.1 g⟩
  · by_cases e : a = x
    · subst e; exact ⟨hf.2.2.1, hf.2.2.2⟩
    · exact ⟨((hk a ha).2 e).2.2.2.2.1, ((hk a ha).2 e).2.2.2.2.2⟩
theorem grow_ok {n N : Nat} (h : n < 3600) (h1 : N ≤ 3600) (h2 : N = 3600 ∨ N = 2 * n + 1) : fC N + 4 ≤ fC n ∧ fS N + 4 * N ≤ fS n := by
  unfold fC fS
  rcases h2 with h2 | h2
  · subst h2; simp; rw [if_pos h]; omega
  · constructor
    · omega
    · rw [if_pos h]
      split <;> omega

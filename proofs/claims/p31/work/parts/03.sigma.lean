/-! THE STORE AS NUMBERS: the constructors make 984 cells, whose references never change; what changes are ints. σ a i: the int at place i of the cell at address a. -/
abbrev zS : Type := Nat → Nat → Int32
abbrev zR : Type := Nat × Nat × List Nat
def iI (x : Int) : Int32 := Int32.ofInt x
def iv (σ : zS) (a i : Nat) : Int := (σ a i).toInt
theorem iI_iv (σ : zS) (a i : Nat) : iI (iv σ a i) = σ a i := Int32.ofInt_toInt _
theorem rgI (x : Int32) : -2147483648 ≤ x.toInt ∧ x.toInt < 2147483648 := by
  have h1 := Int32.le_toInt x
  have h2 := Int32.toInt_lt x
  omega
theorem rg_iv (σ : zS) (a i : Nat) : -2147483648 ≤ iv σ a i ∧ iv σ a i < 2147483648 := rgI _
theorem z_bmod {z : Int} (h1 : -2147483648 ≤ z) (h2 : z < 2147483648) : z.bmod (2 ^ 32) = z := by
  rw [Int.bmod_eq_of_le (by omega) (by omega)]
theorem iI_to {z : Int} (h : -2147483648 ≤ z ∧ z < 2147483648) : (iI z).toInt = z := by
  unfold iI
  rw [Int32.toInt_ofInt, z_bmod h.1 h.2]
theorem iI_add (x y : Int) : iI x + iI y = iI (x + y) := (Int32.ofInt_add x y).symm
theorem iI_sub (x y : Int) : iI x - iI y = iI (x - y) := (Int32.ofInt_sub x y).symm
theorem iI_mul (x y : Int) : iI x * iI y = iI (x * y) := (Int32.ofInt_mul x y).symm
theorem iI_0 : (0 : Int32) = iI 0 := by decide
theorem iI_le {x y : Int} (hx : -2147483648 ≤ x ∧ x < 2147483648) (hy : -2147483648 ≤ y ∧ y < 2147483648) : iI x ≤ iI y ↔ x ≤ y := by
  rw [Int32.le_iff_toInt_le, iI_to hx, iI_to hy]
theorem iI_lt {x y : Int} (hx : -2147483648 ≤ x ∧ x < 2147483648) (hy : -2147483648 ≤ y ∧ y < 2147483648) : iI x < iI y ↔ x < y := by
  rw [Int32.lt_iff_toInt_lt, iI_to hx, iI_to hy]
theorem iI_inj {x y : Int} (hx : -2147483648 ≤ x ∧ x < 2147483648) (hy : -2147483648 ≤ y ∧ y < 2147483648) : iI x = iI y ↔ x = y := by
  constructor
  · intro h
    have := congrArg Int32.toInt h
    rwa [iI_to hx, iI_to hy] at this
  · rintro rfl; rfl
theorem iI_nat (n : Nat) : iI (n : Int) = nI n := by
  apply Int32.toBitVec_inj.mp
  show BitVec.ofInt 32 (n : Int) = BitVec.ofNat 32 n
  exact BitVec.ofInt_natCast 32 n
theorem iI_div {x y : Int} (hx : 0 ≤ x ∧ x < 2147483648) (hy : 0 < y ∧ y < 2147483648) : iI x / iI y = iI (x / y) := by
  apply Int32.toInt_inj.mp
  have h1 : x / y ≤ x := Int.ediv_le_self y hx.1
  have h2 : 0 ≤ x / y := Int.ediv_nonneg hx.1 (by omega)
  rw [Int32.toInt_div, iI_to (by omega), iI_to (by omega), iI_to (by omega), Int.tdiv_eq_ediv_of_nonneg hx.1, Int.bmod_eq_of_le (by omega) (by omega)]
theorem iI_rem {x y : Int} (hx : 0 ≤ x ∧ x < 2147483648) (hy : 0 < y ∧ y < 2147483648) : iI x - iI x / iI y * iI y = iI (x % y) := by
  rw [iI_div hx hy, iI_mul, iI_sub, Int.emod_def, Int.mul_comm]
theorem iI_and (m n : Nat) : iI (m : Int) &&& iI (n : Int) = iI ((m &&& n : Nat) : Int) := by
  rw [iI_nat, iI_nat, iI_nat]
  apply Int32.toBitVec_inj.1
  show BitVec.ofNat 32 m &&& BitVec.ofNat 32 n = BitVec.ofNat 32 (m &&& n)
  apply BitVec.eq_of_getLsbD_eq
  intro i hi
  simp [hi]
theorem iI_or (m n : Nat) : iI (m : Int) ||| iI (n : Int) = iI ((m ||| n : Nat) : Int) := by
  rw [iI_nat, iI_nat, iI_nat]
  apply Int32.toBitVec_inj.1
  show BitVec.ofNat 32 m ||| BitVec.ofNat 32 n = BitVec.ofNat 32 (m ||| n)
  apply BitVec.eq_of_getLsbD_eq
  intro i hi
  simp [hi]
theorem iI_shl : ∀ i : Nat, i < 31 → (1 : Int32) <<< (nI i &&& 31) = nI (2 ^ i) := by decide +kernel
/-- the base: the address of the store's own object -/
def zb (o : jw_O) : Nat := o.2.2.2.1
def zt : List zR := [(8, 0, [2, 30, 906, 970, 973, 980, 984, 0, 0, 0]), (1, 0, [3, 4]), (22, 12, [5, 7, 9, 11, 13, 15, 17, 19, 21, 23, 25, 27]), (0, 0, [5, 0, 0]), (20, 10, []), (0, 0, [7, 0, 0]), (20, 10, []), (0, 0, [9, 0, 0]), (20, 10, []), (0, 0, [11, 0, 0]), (20, 10, []), (0, 0, [13, 0, 0]), (20, 10, []), (0, 0, [15, 0, 0]), (20, 10, []), (0, 0, [17, 0, 0]), (20, 10, []), (0, 0, [19, 0, 0]), (20, 10, []), (0, 0, [21, 0, 0]), (20, 10, []), (0, 0, [23, 0, 0]), (20, 10, []), (0, 0, [25, 0, 0]), (20, 10, []), (0, 0, [27, 0, 0]), (20, 10, []), (0, 0, [29, 0, 0]), (20, 10, []), (7, 0, [31, 32, 60, 61, 62, 63, 64, 65, 0, 0]), (23, 30, [65, 93, 121, 149, 177, 205, 233, 261, 289, 317, 345, 373, 401, 429, 457, 485, 513, 541, 569, 597, 625, 653, 681, 709, 737, 765, 793, 821, 849, 877]), (1, 0, [33, 34]), (22, 12, [35, 37, 39, 41, 43, 45, 47, 49, 51, 53, 55, 57]), (0, 0, [35, 0, 0]), (20, 10, []), (0, 0, [37, 0, 0]), (20, 10, []), (0, 0, [39, 0, 0]), (20, 10, []), (0, 0, [41, 0, 0]), (20, 10, []), (0, 0, [43, 0, 0]), (20, 10, []), (0, 0, [45, 0, 0]), (20, 10, []), (0, 0, [47, 0, 0]), (20, 10, []), (0, 0, [49, 0, 0]), (20, 10, []), (0, 0, [51, 0, 0]), (20, 10, []), (0, 0, [53, 0, 0]), (20, 10, []), (0, 0, [55, 0, 0]), (20, 10, []), (0, 0, [57, 0, 0]), (20, 10, []), (0, 0, [59, 0, 0]), (20, 10, []), (20, 30, []), (20, 30, []), (20, 30, []), (20, 30, []), (20, 360, []), (20, 360, []), (1, 0, [67, 68]), (22, 12, [69, 71, 73, 75, 77, 79, 81, 83, 85, 87, 89, 91]), (0, 0, [69, 0, 0]), (20, 10, []), (0, 0, [71, 0, 0]), (20, 10, []), (0, 0, [73, 0, 0]), (20, 10, []), (0, 0, [75, 0, 0]), (20, 10, []), (0, 0, [77, 0, 0]), (20, 10, []), (0, 0, [79, 0, 0]), (20, 10, []), (0, 0, [81, 0, 0]), (20, 10, []), (0, 0, [83, 0, 0]), (20, 10, []), (0, 0, [85, 0, 0]), (20, 10, []), (0, 0, [87, 0, 0]), (20, 10, []), (0, 0, [89, 0, 0]), (20, 10, []), (0, 0, [91, 0, 0]), (20, 10, []), (0, 0, [93, 0, 0]), (20, 10, []), (1, 0, [95, 96]), (22, 12, [97, 99, 101, 103, 105, 107, 109, 111, 113, 115, 117, 119]), (0, 0, [97, 0, 0]), (20, 10, []), (0, 0, [99, 0, 0]), (20, 10, []), (0, 0, [101, 0, 0]), (20, 10, []), (0, 0, [103, 0, 0]), (20, 10, []), (0, 0, [105, 0, 0]), (20, 10, []), (0, 0, [107, 0, 0]), (20, 10, []), (0, 0, [109, 0, 0]), (20, 10, []), (0, 0, [111, 0, 0]), (20, 10, []), (0, 0, [113, 0, 0]), (20, 10, []), (0, 0, [115, 0, 0]), (20, 10, []), (0, 0, [117, 0, 0]), (20, 10, []), (0, 0, [119, 0, 0]), (20, 10, []), (0, 0, [121, 0, 0]), (20, 10, []), (1, 0, [123, 124]), (22, 12, [125, 127, 129, 131, 133, 135, 137, 139, 141, 143, 145, 147]), (0, 0, [125, 0, 0]), (20, 10, []), (0, 0, [127, 0, 0]), (20, 10, []), (0, 0, [129, 0, 0]), (20, 10, []), (0, 0, [131, 0, 0]), (20, 10, []), (0, 0, [133, 0, 0]), (20, 10, []), (0, 0, [135, 0, 0]), (20, 10, []), (0, 0, [137, 0, 0]), (20, 10, []), (0, 0, [139, 0, 0]), (20, 10, []), (0, 0, [141, 0, 0]), (20, 10, []), (0, 0, [143, 0, 0]), (20, 10, []), (0, 0, [145, 0, 0]), (20, 10, []), (0, 0, [147, 0, 0]), (20, 10, []), (0, 0, [149, 0, 0]), (20, 10, []), (1, 0, [151, 152]), (22, 12, [153, 155, 157, 159, 161, 163, 165, 167, 169, 171, 173, 175]), (0, 0, [153, 0, 0]), (20, 10, []), (0, 0, [155, 0, 0]), (20, 10, []), (0, 0, [157, 0, 0]), (20, 10, []), (0, 0, [159, 0, 0]), (20, 10, []), (0, 0, [161, 0, 0]), (20, 10, []), (0, 0, [163, 0, 0]), (20, 10, []), (0, 0, [165, 0, 0]), (20, 10, []), (0, 0, [167, 0, 0]), (20, 10, []), (0, 0, [169, 0, 0]), (20, 10, []), (0, 0, [171, 0, 0]), (20, 10, []), (0, 0, [173, 0, 0]), (20, 10, []), (0, 0, [175, 0, 0]), (20, 10, []), (0, 0, [177, 0, 0]), (20, 10, []), (1, 0, [179, 180]), (22, 12, [181, 183, 185, 187, 189, 191, 193, 195, 197, 199, 201, 203]), (0, 0, [181, 0, 0]), (20, 10, []), (0, 0, [183, 0, 0]), (20, 10, []), (0, 0, [185, 0, 0]), (20, 10, []), (0, 0, [187, 0, 0]), (20, 10, []), (0, 0, [189, 0, 0]), (20, 10, []), (0, 0, [191, 0, 0]), (20, 10, []), (0, 0, [193, 0, 0]), (20, 10, []), (0, 0, [195, 0, 0]), (20, 10, []), (0, 0, [197, 0, 0]), (20, 10, []), (0, 0, [199, 0, 0]), (20, 10, []), (0, 0, [201, 0, 0]), (20, 10, []), (0, 0, [203, 0, 0]), (20, 10, []), (0, 0, [205, 0, 0]), (20, 10, []), (1, 0, [207, 208]), (22, 12, [209, 211, 213, 215, 217, 219, 221, 223, 225, 227, 229, 231]), (0, 0, [209, 0, 0]), (20, 10, []), (0, 0, [211, 0, 0]), (20, 10, []), (0, 0, [213, 0, 0]), (20, 10, []), (0, 0, [215, 0, 0]), (20, 10, []), (0, 0, [217, 0, 0]), (20, 10, []), (0, 0, [219, 0, 0]), (20, 10, []), (0, 0, [221, 0, 0]), (20, 10, []), (0, 0, [223, 0, 0]), (20, 10, []), (0, 0, [225, 0, 0]), (20, 10, []), (0, 0, [227, 0, 0]), (20, 10, []), (0, 0, [229, 0, 0]), (20, 10, []), (0, 0, [231, 0, 0]), (20, 10, []), (0, 0, [233, 0, 0]), (20, 10, []), (1, 0, [235, 236]), (22, 12, [237, 239, 241, 243, 245, 247, 249, 251, 253, 255, 257, 259]), (0, 0, [237, 0, 0]), (20, 10, []), (0, 0, [239, 0, 0]), (20, 10, []), (0, 0, [241, 0, 0]), (20, 10, []), (0, 0, [243, 0, 0]), (20, 10, []), (0, 0, [245, 0, 0]), (20, 10, []), (0, 0, [247, 0, 0]), (20, 10, []), (0, 0, [249, 0, 0]), (20, 10, []), (0, 0, [251, 0, 0]), (20, 10, []), (0, 0, [253, 0, 0]), (20, 10, []), (0, 0, [255, 0, 0]), (20, 10, []), (0, 0, [257, 0, 0]), (20, 10, []), (0, 0, [259, 0, 0]), (20, 10, []), (0, 0, [261, 0, 0]), (20, 10, []), (1, 0, [263, 264]), (22, 12, [265, 267, 269, 271, 273, 275, 277, 279, 281, 283, 285, 287]), (0, 0, [265, 0, 0]), (20, 10, []), (0, 0, [267, 0, 0]), (20, 10, []), (0, 0, [269, 0, 0]), (20, 10, []), (0, 0, [271, 0, 0]), (20, 10, []), (0, 0, [273, 0, 0]), (20, 10, []), (0, 0, [275, 0, 0]), (20, 10, []), (0, 0, [277, 0, 0]), (20, 10, []), (0, 0, [279, 0, 0]), (20, 10, []), (0, 0, [281, 0, 0]), (20, 10, []), (0, 0, [283, 0, 0]), (20, 10, []), (0, 0, [285, 0, 0]), (20, 10, []), (0, 0, [287, 0, 0]), (20, 10, []), (0, 0, [289, 0, 0]), (20, 10, []), (1, 0, [291, 292]), (22, 12, [293, 295, 297, 299, 301, 303, 305, 307, 309, 311, 313, 315]), (0, 0, [293, 0, 0]), (20, 10, []), (0, 0, [295, 0, 0]), (20, 10, []), (0, 0, [297, 0, 0]), (20, 10, []), (0, 0, [299, 0, 0]), (20, 10, []), (0, 0, [301, 0, 0]), (20, 10, []), (0, 0, [303, 0, 0]), (20, 10, []), (0, 0, [305, 0, 0]), (20, 10, []), (0, 0, [307, 0, 0]), (20, 10, []), (0, 0, [309, 0, 0]), (20, 10, []), (0, 0, [311, 0, 0]), (20, 10, []), (0, 0, [313, 0, 0]), (20, 10, []), (0, 0, [315, 0, 0]), (20, 10, []), (0, 0, [317, 0, 0]), (20, 10, []), (1, 0, [319, 320]), (22, 12, [321, 323, 325, 327, 329, 331, 333, 335, 337, 339, 341, 343]), (0, 0, [321, 0, 0]), (20, 10, []), (0, 0, [323, 0, 0]), (20, 10, []), (0, 0, [325, 0, 0]), (20, 10, []), (0, 0, [327, 0, 0]), (20, 10, []), (0, 0, [329, 0, 0]), (20, 10, []), (0, 0, [331, 0, 0]), (20, 10, []), (0, 0, [333, 0, 0]), (20, 10, []), (0, 0, [335, 0, 0]), (20, 10, []), (0, 0, [337, 0, 0]), (20, 10, []), (0, 0, [339, 0, 0]), (20, 10, []), (0, 0, [341, 0, 0]), (20, 10, []), (0, 0, [343, 0, 0]), (20, 10, []), (0, 0, [345, 0, 0]), (20, 10, []), (1, 0, [347, 348]), (22, 12, [349, 351, 353, 355, 357, 359, 361, 363, 365, 367, 369, 371]), (0, 0, [349, 0, 0]), (20, 10, []), (0, 0, [351, 0, 0]), (20, 10, []), (0, 0, [353, 0, 0]), (20, 10, []), (0, 0, [355, 0, 0]), (20, 10, []), (0, 0, [357, 0, 0]), (20, 10, []), (0, 0, [359, 0, 0]), (20, 10, []), (0, 0, [361, 0, 0]), (20, 10, []), (0, 0, [363, 0, 0]), (20, 10, []), (0, 0, [365, 0, 0]), (20, 10, []), (0, 0, [367, 0, 0]), (20, 10, []), (0, 0, [369, 0, 0]), (20, 10, []), (0, 0, [371, 0, 0]), (20, 10, []), (0, 0, [373, 0, 0]), (20, 10, []), (1, 0, [375, 376]), (22, 12, [377, 379, 381, 383, 385, 387, 389, 391, 393, 395, 397, 399]), (0, 0, [377, 0, 0]), (20, 10, []), (0, 0, [379, 0, 0]), (20, 10, []), (0, 0, [381, 0, 0]), (20, 10, []), (0, 0, [383, 0, 0]), (20, 10, []), (0, 0, [385, 0, 0]), (20, 10, []), (0, 0, [387, 0, 0]), (20, 10, []), (0, 0, [389, 0, 0]), (20, 10, []), (0, 0, [391, 0, 0]), (20, 10, []), (0, 0, [393, 0, 0]), (20, 10, []), (0, 0, [395, 0, 0]), (20, 10, []), (0, 0, [397, 0, 0]), (20, 10, []), (0, 0, [399, 0, 0]), (20, 10, []), (0, 0, [401, 0, 0]), (20, 10, []), (1, 0, [403, 404]), (22, 12, [405, 407, 409, 411, 413, 415, 417, 419, 421, 423, 425, 427]), (0, 0, [405, 0, 0]), (20, 10, []), (0, 0, [407, 0, 0]), (20, 10, []), (0, 0, [409, 0, 0]), (20, 10, []), (0, 0, [411, 0, 0]), (20, 10, []), (0, 0, [413, 0, 0]), (20, 10, []), (0, 0, [415, 0, 0]), (20, 10, []), (0, 0, [417, 0, 0]), (20, 10, []), (0, 0, [419, 0, 0]), (20, 10, []), (0, 0, [421, 0, 0]), (20, 10, []), (0, 0, [423, 0, 0]), (20, 10, []), (0, 0, [425, 0, 0]), (20, 10, []), (0, 0, [427, 0, 0]), (20, 10, []), (0, 0, [429, 0, 0]), (20, 10, []), (1, 0, [431, 432]), (22, 12, [433, 435, 437, 439, 441, 443, 445, 447, 449, 451, 453, 455]), (0, 0, [433, 0, 0]), (20, 10, []), (0, 0, [435, 0, 0]), (20, 10, []), (0, 0, [437, 0, 0]), (20, 10, []), (0, 0, [439, 0, 0]), (20, 10, []), (0, 0, [441, 0, 0]), (20, 10, []), (0, 0, [443, 0, 0]), (20, 10, []), (0, 0, [445, 0, 0]), (20, 10, []), (0, 0, [447, 0, 0]), (20, 10, []), (0, 0, [449, 0, 0]), (20, 10, []), (0, 0, [451, 0, 0]), (20, 10, []), (0, 0, [453, 0, 0]), (20, 10, []), (0, 0, [455, 0, 0]), (20, 10, []), (0, 0, [457, 0, 0]), (20, 10, []), (1, 0, [459, 460]), (22, 12, [461, 463, 465, 467, 469, 471, 473, 475, 477, 479, 481, 483]), (0, 0, [461, 0, 0]), (20, 10, []), (0, 0, [463, 0, 0]), (20, 10, []), (0, 0, [465, 0, 0]), (20, 10, []), (0, 0, [467, 0, 0]), (20, 10, []), (0, 0, [469, 0, 0]), (20, 10, []), (0, 0, [471, 0, 0]), (20, 10, []), (0, 0, [473, 0, 0]), (20, 10, []), (0, 0, [475, 0, 0]), (20, 10, []), (0, 0, [477, 0, 0]), (20, 10, []), (0, 0, [479, 0, 0]), (20, 10, []), (0, 0, [481, 0, 0]), (20, 10, []), (0, 0, [483, 0, 0]), (20, 10, []), (0, 0, [485, 0, 0]), (20, 10, []), (1, 0, [487, 488]), (22, 12, [489, 491, 493, 495, 497, 499, 501, 503, 505, 507, 509, 511]), (0, 0, [489, 0, 0]), (20, 10, []), (0, 0, [491, 0, 0]), (20, 10, []), (0, 0, [493, 0, 0]), (20, 10, []), (0, 0, [495, 0, 0]), (20, 10, []), (0, 0, [497, 0, 0]), (20, 10, []), (0, 0, [499, 0, 0]), (20, 10, []), (0, 0, [501, 0, 0]), (20, 10, []), (0, 0, [503, 0, 0]), (20, 10, []), (0, 0, [505, 0, 0]), (20, 10, []), (0, 0, [507, 0, 0]), (20, 10, []), (0, 0, [509, 0, 0]), (20, 10, []), (0, 0, [511, 0, 0]), (20, 10, []), (0, 0, [513, 0, 0]), (20, 10, []), (1, 0, [515, 516]), (22, 12, [517, 519, 521, 523, 525, 527, 529, 531, 533, 535, 537, 539]), (0, 0, [517, 0, 0]), (20, 10, []), (0, 0, [519, 0, 0]), (20, 10, []), (0, 0, [521, 0, 0]), (20, 10, []), (0, 0, [523, 0, 0]), (20, 10, []), (0, 0, [525, 0, 0]), (20, 10, []), (0, 0, [527, 0, 0]), (20, 10, []), (0, 0, [529, 0, 0]), (20, 10, []), (0, 0, [531, 0, 0]), (20, 10, []), (0, 0, [533, 0, 0]), (20, 10, []), (0, 0, [535, 0, 0]), (20, 10, []), (0, 0, [537, 0, 0]), (20, 10, []), (0, 0, [539, 0, 0]), (20, 10, []), (0, 0, [541, 0, 0]), (20, 10, []), (1, 0, [543, 544]), (22, 12, [545, 547, 549, 551, 553, 555, 557, 559, 561, 563, 565, 567]), (0, 0, [545, 0, 0]), (20, 10, []), (0, 0, [547, 0, 0]), (20, 10, []), (0, 0, [549, 0, 0]), (20, 10, []), (0, 0, [551, 0, 0]), (20, 10, []), (0, 0, [553, 0, 0]), (20, 10, []), (0, 0, [555, 0, 0]), (20, 10, []), (0, 0, [557, 0, 0]), (20, 10, []), (0, 0, [559, 0, 0]), (20, 10, []), (0, 0, [561, 0, 0]), (20, 10, []), (0, 0, [563, 0, 0]), (20, 10, []), (0, 0, [565, 0, 0]), (20, 10, []), (0, 0, [567, 0, 0]), (20, 10, []), (0, 0, [569, 0, 0]), (20, 10, []), (1, 0, [571, 572]), (22, 12, [573, 575, 577, 579, 581, 583, 585, 587, 589, 591, 593, 595]), (0, 0, [573, 0, 0]), (20, 10, []), (0, 0, [575, 0, 0]), (20, 10, []), (0, 0, [577, 0, 0]), (20, 10, []), (0, 0, [579, 0, 0]), (20, 10, []), (0, 0, [581, 0, 0]), (20, 10, []), (0, 0, [583, 0, 0]), (20, 10, []), (0, 0, [585, 0, 0]), (20, 10, []), (0, 0, [587, 0, 0]), (20, 10, []), (0, 0, [589, 0, 0]), (20, 10, []), (0, 0, [591, 0, 0]), (20, 10, []), (0, 0, [593, 0, 0]), (20, 10, []), (0, 0, [595, 0, 0]), (20, 10, []), (0, 0, [597, 0, 0]), (20, 10, []), (1, 0, [599, 600]), (22, 12, [601, 603, 605, 607, 609, 611, 613, 615, 617, 619, 621, 623]), (0, 0, [601, 0, 0]), (20, 10, []), (0, 0, [603, 0, 0]), (20, 10, []), (0, 0, [605, 0, 0]), (20, 10, []), (0, 0, [607, 0, 0]), (20, 10, []), (0, 0, [609, 0, 0]), (20, 10, []), (0, 0, [611, 0, 0]), (20, 10, []), (0, 0, [613, 0, 0]), (20, 10, []), (0, 0, [615, 0, 0]), (20, 10, []), (0, 0, [617, 0, 0]), (20, 10, []), (0, 0, [619, 0, 0]), (20, 10, []), (0, 0, [621, 0, 0]), (20, 10, []), (0, 0, [623, 0, 0]), (20, 10, []), (0, 0, [625, 0, 0]), (20, 10, []), (1, 0, [627, 628]), (22, 12, [629, 631, 633, 635, 637, 639, 641, 643, 645, 647, 649, 651]), (0, 0, [629, 0, 0]), (20, 10, []), (0, 0, [631, 0, 0]), (20, 10, []), (0, 0, [633, 0, 0]), (20, 10, []), (0, 0, [635, 0, 0]), (20, 10, []), (0, 0, [637, 0, 0]), (20, 10, []), (0, 0, [639, 0, 0]), (20, 10, []), (0, 0, [641, 0, 0]), (20, 10, []), (0, 0, [643, 0, 0]), (20, 10, []), (0, 0, [645, 0, 0]), (20, 10, []), (0, 0, [647, 0, 0]), (20, 10, []), (0, 0, [649, 0, 0]), (20, 10, []), (0, 0, [651, 0, 0]), (20, 10, []), (0, 0, [653, 0, 0]), (20, 10, []), (1, 0, [655, 656]), (22, 12, [657, 659, 661, 663, 665, 667, 669, 671, 673, 675, 677, 679]), (0, 0, [657, 0, 0]), (20, 10, []), (0, 0, [659, 0, 0]), (20, 10, []), (0, 0, [661, 0, 0]), (20, 10, []), (0, 0, [663, 0, 0]), (20, 10, []), (0, 0, [665, 0, 0]), (20, 10, []), (0, 0, [667, 0, 0]), (20, 10, []), (0, 0, [669, 0, 0]), (20, 10, []), (0, 0, [671, 0, 0]), (20, 10, []), (0, 0, [673, 0, 0]), (20, 10, []), (0, 0, [675, 0, 0]), (20, 10, []), (0, 0, [677, 0, 0]), (20, 10, []), (0, 0, [679, 0, 0]), (20, 10, []), (0, 0, [681, 0, 0]), (20, 10, []), (1, 0, [683, 684]), (22, 12, [685, 687, 689, 691, 693, 695, 697, 699, 701, 703, 705, 707]), (0, 0, [685, 0, 0]), (20, 10, []), (0, 0, [687, 0, 0]), (20, 10, []), (0, 0, [689, 0, 0]), (20, 10, []), (0, 0, [691, 0, 0]), (20, 10, []), (0, 0, [693, 0, 0]), (20, 10, []), (0, 0, [695, 0, 0]), (20, 10, []), (0, 0, [697, 0, 0]), (20, 10, []), (0, 0, [699, 0, 0]), (20, 10, []), (0, 0, [701, 0, 0]), (20, 10, []), (0, 0, [703, 0, 0]), (20, 10, []), (0, 0, [705, 0, 0]), (20, 10, []), (0, 0, [707, 0, 0]), (20, 10, []), (0, 0, [709, 0, 0]), (20, 10, []), (1, 0, [711, 712]), (22, 12, [713, 715, 717, 719, 721, 723, 725, 727, 729, 731, 733, 735]), (0, 0, [713, 0, 0]), (20, 10, []), (0, 0, [715, 0, 0]), (20, 10, []), (0, 0, [717, 0, 0]), (20, 10, []), (0, 0, [719, 0, 0]), (20, 10, []), (0, 0, [721, 0, 0]), (20, 10, []), (0, 0, [723, 0, 0]), (20, 10, []), (0, 0, [725, 0, 0]), (20, 10, []), (0, 0, [727, 0, 0]), (20, 10, []), (0, 0, [729, 0, 0]), (20, 10, []), (0, 0, [731, 0, 0]), (20, 10, []), (0, 0, [733, 0, 0]), (20, 10, []), (0, 0, [735, 0, 0]), (20, 10, []), (0, 0, [737, 0, 0]), (20, 10, []), (1, 0, [739, 740]), (22, 12, [741, 743, 745, 747, 749, 751, 753, 755, 757, 759, 761, 763]), (0, 0, [741, 0, 0]), (20, 10, []), (0, 0, [743, 0, 0]), (20, 10, []), (0, 0, [745, 0, 0]), (20, 10, []), (0, 0, [747, 0, 0]), (20, 10, []), (0, 0, [749, 0, 0]), (20, 10, []), (0, 0, [751, 0, 0]), (20, 10, []), (0, 0, [753, 0, 0]), (20, 10, []), (0, 0, [755, 0, 0]), (20, 10, []), (0, 0, [757, 0, 0]), (20, 10, []), (0, 0, [759, 0, 0]), (20, 10, []), (0, 0, [761, 0, 0]), (20, 10, []), (0, 0, [763, 0, 0]), (20, 10, []), (0, 0, [765, 0, 0]), (20, 10, []), (1, 0, [767, 768]), (22, 12, [769, 771, 773, 775, 777, 779, 781, 783, 785, 787, 789, 791]), (0, 0, [769, 0, 0]), (20, 10, []), (0, 0, [771, 0, 0]), (20, 10, []), (0, 0, [773, 0, 0]), (20, 10, []), (0, 0, [775, 0, 0]), (20, 10, []), (0, 0, [777, 0, 0]), (20, 10, []), (0, 0, [779, 0, 0]), (20, 10, []), (0, 0, [781, 0, 0]), (20, 10, []), (0, 0, [783, 0, 0]), (20, 10, []), (0, 0, [785, 0, 0]), (20, 10, []), (0, 0, [787, 0, 0]), (20, 10, []), (0, 0, [789, 0, 0]), (20, 10, []), (0, 0, [791, 0, 0]), (20, 10, []), (0, 0, [793, 0, 0]), (20, 10, []), (1, 0, [795, 796]), (22, 12, [797, 799, 801, 803, 805, 807, 809, 811, 813, 815, 817, 819]), (0, 0, [797, 0, 0]), (20, 10, []), (0, 0, [799, 0, 0]), (20, 10, []), (0, 0, [801, 0, 0]), (20, 10, []), (0, 0, [803, 0, 0]), (20, 10, []), (0, 0, [805, 0, 0]), (20, 10, []), (0, 0, [807, 0, 0]), (20, 10, []), (0, 0, [809, 0, 0]), (20, 10, []), (0, 0, [811, 0, 0]), (20, 10, []), (0, 0, [813, 0, 0]), (20, 10, []), (0, 0, [815, 0, 0]), (20, 10, []), (0, 0, [817, 0, 0]), (20, 10, []), (0, 0, [819, 0, 0]), (20, 10, []), (0, 0, [821, 0, 0]), (20, 10, []), (1, 0, [823, 824]), (22, 12, [825, 827, 829, 831, 833, 835, 837, 839, 841, 843, 845, 847]), (0, 0, [825, 0, 0]), (20, 10, []), (0, 0, [827, 0, 0]), (20, 10, []), (0, 0, [829, 0, 0]), (20, 10, []), (0, 0, [831, 0, 0]), (20, 10, []), (0, 0, [833, 0, 0]), (20, 10, []), (0, 0, [835, 0, 0]), (20, 10, []), (0, 0, [837, 0, 0]), (20, 10, []), (0, 0, [839, 0, 0]), (20, 10, []), (0, 0, [841, 0, 0]), (20, 10, []), (0, 0, [843, 0, 0]), (20, 10, []), (0, 0, [845, 0, 0]), (20, 10, []), (0, 0, [847, 0, 0]), (20, 10, []), (0, 0, [849, 0, 0]), (20, 10, []), (1, 0, [851, 852]), (22, 12, [853, 855, 857, 859, 861, 863, 865, 867, 869, 871, 873, 875]), (0, 0, [853, 0, 0]), (20, 10, []), (0, 0, [855, 0, 0]), (20, 10, []), (0, 0, [857, 0, 0]), (20, 10, []), (0, 0, [859, 0, 0]), (20, 10, []), (0, 0, [861, 0, 0]), (20, 10, []), (0, 0, [863, 0, 0]), (20, 10, []), (0, 0, [865, 0, 0]), (20, 10, []), (0, 0, [867, 0, 0]), (20, 10, []), (0, 0, [869, 0, 0]), (20, 10, []), (0, 0, [871, 0, 0]), (20, 10, []), (0, 0, [873, 0, 0]), (20, 10, []), (0, 0, [875, 0, 0]), (20, 10, []), (0, 0, [877, 0, 0]), (20, 10, []), (1, 0, [879, 880]), (22, 12, [881, 883, 885, 887, 889, 891, 893, 895, 897, 899, 901, 903]), (0, 0, [881, 0, 0]), (20, 10, []), (0, 0, [883, 0, 0]), (20, 10, []), (0, 0, [885, 0, 0]), (20, 10, []), (0, 0, [887, 0, 0]), (20, 10, []), (0, 0, [889, 0, 0]), (20, 10, []), (0, 0, [891, 0, 0]), (20, 10, []), (0, 0, [893, 0, 0]), (20, 10, []), (0, 0, [895, 0, 0]), (20, 10, []), (0, 0, [897, 0, 0]), (20, 10, []), (0, 0, [899, 0, 0]), (20, 10, []), (0, 0, [901, 0, 0]), (20, 10, []), (0, 0, [903, 0, 0]), (20, 10, []), (0, 0, [905, 0, 0]), (20, 10, []), (6, 0, [907, 935, 938, 945, 952, 967, 969]), (1, 0, [908, 909]), (22, 12, [910, 912, 914, 916, 918, 920, 922, 924, 926, 928, 930, 932]), (0, 0, [910, 0, 0]), (20, 10, []), (0, 0, [912, 0, 0]), (20, 10, []), (0, 0, [914, 0, 0]), (20, 10, []), (0, 0, [916, 0, 0]), (20, 10, []), (0, 0, [918, 0, 0]), (20, 10, []), (0, 0, [920, 0, 0]), (20, 10, []), (0, 0, [922, 0, 0]), (20, 10, []), (0, 0, [924, 0, 0]), (20, 10, []), (0, 0, [926, 0, 0]), (20, 10, []), (0, 0, [928, 0, 0]), (20, 10, []), (0, 0, [930, 0, 0]), (20, 10, []), (0, 0, [932, 0, 0]), (20, 10, []), (0, 0, [934, 0, 0]), (20, 10, []), (5, 0, [936, 937, 0]), (20, 24, []), (20, 24, []), (3, 0, [939, 940, 941, 0]), (20, 12, []), (20, 12, []), (2, 0, [942, 943, 944]), (20, 121, []), (20, 10, []), (20, 10, []), (3, 0, [946, 947, 948, 0]), (20, 12, []), (20, 12, []), (2, 0, [949, 950, 951]), (20, 121, []), (20, 10, []), (20, 10, []), (4, 0, [953, 957, 961, 963, 965]), (2, 0, [954, 955, 956]), (20, 121, []), (20, 10, []), (20, 10, []), (2, 0, [958, 959, 960]), (20, 121, []), (20, 10, []), (20, 10, []), (0, 0, [962, 0, 0]), (20, 10, []), (0, 0, [964, 0, 0]), (20, 10, []), (0, 0, [966, 0, 0]), (20, 10, []), (0, 0, [968, 0, 0]), (20, 10, []), (21, 12, []), (5, 0, [971, 972, 0]), (20, 24, []), (20, 24, []), (3, 0, [974, 975, 976, 0]), (20, 12, []), (20, 12, []), (2, 0, [977, 978, 979]), (20, 121, []), (20, 10, []), (20, 10, []), (2, 0, [981, 982, 983]), (20, 121, []), (20, 10, []), (20, 10, []), (20, 5, [])]
def zf (o : jw_O) (σ : zS) (a : Nat) : Nat → List Nat → List Value
  | _, [] => []
  | i, 0 :: t => .int (σ a i) :: zf o σ a (i + 1) t
  | i, (r + 1) :: t => .ref (zb o + r) :: zf o σ a (i + 1) t
def ze (o : jw_O) (σ : zS) (a : Nat) : zR → va_E
  | (20, n, _) => .inl (o.2.2.1 0, n, .inl (σ a))
  | (21, n, _) => .inl (o.2.2.1 1, n, .inl (σ a))
  | (22, n, l) => .inl (o.2.2.1 2, n, .inr (.inr (.inr (.inr (fun i => (l[i]?).map (fun r => zb o + r))))))
  | (23, n, l) => .inl (o.2.2.1 3, n, .inr (.inr (.inr (.inr (fun i => (l[i]?).map (fun r => zb o + r))))))
  | (k, _, l) => .inr (k, zf o σ a 0 l)
/-- what is known of the heap -/
def mm (o : jw_O) (σ : zS) : jw_Mem := fun a => if a < zb o then none else (zt[a - zb o]?).map (ze o σ a)
theorem mm_at (o : jw_O) (σ : zS) {j : Nat} {r : zR} (h : zt[j]? = some r) : mm o σ (zb o + j) = some (ze o σ (zb o + j) r) := by
  unfold mm
  rw [if_neg (by omega), Nat.add_sub_cancel_left, h]
  rfl
/-- one int changed -/
def su (σ : zS) (a i : Nat) (v : Int32) : zS := fun b j => if b = a then (if j = i then v else σ b j) else σ b j
def si (σ : zS) (a i : Nat) (e : Int) : zS := su σ a i (iI e)
theorem su_ne {σ : zS} {a i b : Nat} {v : Int32} (h : b ≠ a) : su σ a i v b = σ b := funext fun j => if_neg h
theorem si_ne {σ : zS} {a i b : Nat} {e : Int} (h : b ≠ a) : si σ a i e b = σ b := su_ne h
theorem iv_si {σ : zS} {a i b j : Nat} {e : Int} (he : -2147483648 ≤ e ∧ e < 2147483648) : iv (si σ a i e) b j = if b = a ∧ j = i then e else iv σ b j := by
  unfold iv si su
  by_cases h : b = a
  · by_cases h2 : j = i
    · rw [if_pos h, if_pos h2, if_pos ⟨h, h2⟩, iI_to he]
    · rw [if_pos h, if_neg h2, if_neg (fun q => h2 q.2)]
  · rw [if_neg h, if_neg (fun q => h q.1)]
theorem iv_cell {σ σ' : zS} {a : Nat} (h : σ' a = σ a) (i : Nat) : iv σ' a i = iv σ a i := by unfold iv; rw [h]
theorem zf_congr (o : jw_O) {σ σ' : zS} {a : Nat} (h : σ' a = σ a) : ∀ (l : List Nat) (i : Nat), zf o σ' a i l = zf o σ a i l
  | [], _ => rfl
  | 0 :: t, i => by unfold zf; rw [h, zf_congr o h t]
  | (r + 1) :: t, i => by unfold zf; rw [zf_congr o h t]
theorem ze_congr (o : jw_O) {σ σ' : zS} {a : Nat} (h : σ' a = σ a) (e : zR) : ze o σ' a e = ze o σ a e := by
  unfold ze
  split
  · rw [h]
  · rw [h]
  · rfl
  · rfl
  · rw [zf_congr o h]
theorem zf_set (o : jw_O) (σ : zS) (a : Nat) (v w : Int32) : ∀ (l : List Nat) (i kf : Nat), (zf o σ a i l)[kf]? = some (.int w) → zf o (su σ a (i + kf) v) a i l = (zf o σ a i l).set kf (.int v)
  | [], _, _, h => by simp [zf] at h
  | 0 :: t, i, 0, h => by
    have e : ∀ (t : List Nat) (m : Nat), i < m → zf o (su σ a i v) a m t = zf o σ a m t := by
      intro t
      induction t with
      | nil => intro m _; rfl
      | cons x t ih =>
        intro m hm
        cases x with
        | zero => unfold zf; rw [ih (m + 1) (by omega)]; simp [su, show m ≠ i by omega]
        | succ r => unfold zf; rw [ih (m + 1) (by omega)]
    simp only [zf, List.set_cons_zero, Nat.add_zero]
    rw [e t (i + 1) (by omega)]
    simp [su]
  | 0 :: t, i, kf + 1, h => by
    simp only [zf, List.getElem?_cons_succ] at h
    have e := zf_set o σ a v w t (i + 1) kf h
    rw [show i + 1 + kf = i + (kf + 1) by omega] at e
    simp only [zf, List.set_cons_succ]
    rw [e]
    simp [su, show i ≠ i + (kf + 1) by omega]
  | (r + 1) :: t, i, 0, h => by simp [zf] at h
  | (r + 1) :: t, i, kf + 1, h => by
    simp only [zf, List.getElem?_cons_succ] at h
    have e := zf_set o σ a v w t (i + 1) kf h
    rw [show i + 1 + kf = i + (kf + 1) by omega] at e
    simp only [zf, List.set_cons_succ]
    rw [e]
theorem mm_ne (o : jw_O) {σ : zS} {a i q : Nat} {v : Int32} (h : q ≠ a) : mm o (su σ a i v) q = mm o σ q := by
  unfold mm
  split
  · rfl
  · congr 1
    funext e
    exact ze_congr o (su_ne h) e
theorem mm_obj (o : jw_O) {σ : zS} {a ci kf : Nat} {fs : List Value} {v w : Int32} (ha : mm o σ a = some (.inr (ci, fs))) (hf : fs[kf]? = some (.int w)) : mm o (su σ a kf v) a = some (.inr (ci, fs.set kf (.int v))) := by
  unfold mm at ha ⊢
  split at ha
  · cases ha
  · rename_i hlt
    rw [if_neg hlt]
    cases hz : zt[a - zb o]? with
    | none => rw [hz] at ha; cases ha
    | some e =>
      rw [hz] at ha
      have ha : ze o σ a e = .inr (ci, fs) := Option.some.inj ha
      show some (ze o (su σ a kf v) a e) = _
      congr 1
      unfold ze at ha ⊢
      split at ha
      · cases ha
      · cases ha
      · cases ha
      · cases ha
      · cases ha
        have e := zf_set o σ a v w _ 0 kf hf
        rw [Nat.zero_add] at e
        simp only [e]
theorem mm_arr (o : jw_O) {σ : zS} {a n i : Nat} {cA : ClassId} {v : Int32} (ha : mm o σ a = some (.inl (cA, n, .inl (σ a)))) : mm o (su σ a i v) a = some (.inl (cA, n, .inl (upd (σ a) i v))) := by
  have hu : su σ a i v a = upd (σ a) i v := by
    funext j
    unfold su upd
    rw [if_pos rfl]
  unfold mm at ha ⊢
  split at ha
  · cases ha
  · rename_i hlt
    rw [if_neg hlt]
    cases hz : zt[a - zb o]? with
    | none => rw [hz] at ha; cases ha
    | some e =>
      rw [hz] at ha
      have ha : ze o σ a e = .inl (cA, n, .inl (σ a)) := Option.some.inj ha
      show some (ze o (su σ a i v) a e) = _
      congr 1
      unfold ze at ha ⊢
      split at ha
      · cases ha; rw [hu]
      · cases ha; rw [hu]
      · cases ha
      · cases ha
      · cases ha
/-! rules over the memory of numbers -/
section
variable {mi : jw_M} {o : jw_O} {k : jw_K} {kc ks pc pc' : Nat} {lc lc' : List (Nat × Value)} {st rest : List Value} {μ : jw_Mem} {σ : zS} {hs : Nat}
theorem zx_iconst {n : Int} (hd : decode mi.2.1 pc = .ok (.iconst n, 1)) (hp : pc + 1 = pc') (kk : jw_X mi o k kc ks pc' lc (.int (iI n) :: st) μ hs) : jw_X mi o k kc ks pc lc st μ hs := jw_iconst hd rfl hp kk
theorem zx_bipush {n : Int} (hd : decode mi.2.1 pc = .ok (.bipush n, 2)) (hv : (Int8.ofInt n).toInt32 = iI n) (hp : pc + 2 = pc') (kk : jw_X mi o k kc ks pc' lc (.int (iI n) :: st) μ hs) : jw_X mi o k kc ks pc lc st μ hs := jw_bipush hd hv hp kk
theorem zx_sipush {n : Int} (hd : decode mi.2.1 pc = .ok (.sipush n, 3)) (hv : (Int16.ofInt n).toInt32 = iI n) (hp : pc + 3 = pc') (kk : jw_X mi o k kc ks pc' lc (.int (iI n) :: st) μ hs) : jw_X mi o k kc ks pc lc st μ hs := jw_sipush hd hv hp kk
theorem zx_iadd {x y : Int} (hd : decode mi.2.1 pc = .ok (.iadd, 1)) (hp : pc + 1 = pc') (kk : jw_X mi o k kc ks pc' lc (.int (iI (x + y)) :: rest) μ hs) : jw_X mi o k kc ks pc lc (.int (iI y) :: .int (iI x) :: rest) μ hs := jw_iadd hd (iI_add x y) hp kk
theorem zx_isub {x y : Int} (hd : decode mi.2.1 pc = .ok (.isub, 1)) (hp : pc + 1 = pc') (kk : jw_X mi o k kc ks pc' lc (.int (iI (x - y)) :: rest) μ hs) : jw_X mi o k kc ks pc lc (.int (iI y) :: .int (iI x) :: rest) μ hs := jw_isub hd (iI_sub x y) hp kk
theorem zx_imul {x y : Int} (hd : decode mi.2.1 pc = .ok (.imul, 1)) (hp : pc + 1 = pc') (kk : jw_X mi o k kc ks pc' lc (.int (iI (x * y)) :: rest) μ hs) : jw_X mi o k kc ks pc lc (.int (iI y) :: .int (iI x) :: rest) μ hs := jw_imul hd (iI_mul x y) hp kk
theorem zx_idiv {x y : Int} (hd : decode mi.2.1 pc = .ok (.idiv, 1)) (hx : 0 ≤ x ∧ x < 2147483648) (hy : 0 < y ∧ y < 2147483648) (hp : pc + 1 = pc') (kk : jw_X mi o k kc ks pc' lc (.int (iI (x / y)) :: rest) μ hs) : jw_X mi o k kc ks pc lc (.int (iI y) :: .int (iI x) :: rest) μ hs := jw_idiv hd (fun h => by rw [iI_0] at h; have := (iI_inj (by omega) (by omega)).mp h; omega) (iI_div hx hy) hp kk
theorem zx_irem {x y : Int} (hd : decode mi.2.1 pc = .ok (.irem, 1)) (hx : 0 ≤ x ∧ x < 2147483648) (hy : 0 < y ∧ y < 2147483648) (hp : pc + 1 = pc') (kk : jw_X mi o k kc ks pc' lc (.int (iI (x % y)) :: rest) μ hs) : jw_X mi o k kc ks pc lc (.int (iI y) :: .int (iI x) :: rest) μ hs := jw_irem hd (fun h => by rw [iI_0] at h; have := (iI_inj (by omega) (by omega)).mp h; omega) (iI_rem hx hy) hp kk
theorem zx_iand {m n : Nat} (hd : decode mi.2.1 pc = .ok (.iand, 1)) (hp : pc + 1 = pc') (kk : jw_X mi o k kc ks pc' lc (.int (iI ((m &&& n : Nat) : Int)) :: rest) μ hs) : jw_X mi o k kc ks pc lc (.int (iI (n : Int)) :: .int (iI (m : Int)) :: rest) μ hs := jw_iand hd (iI_and m n) hp kk
theorem zx_ior {m n : Nat} (hd : decode mi.2.1 pc = .ok (.ior, 1)) (hp : pc + 1 = pc') (kk : jw_X mi o k kc ks pc' lc (.int (iI ((m ||| n : Nat) : Int)) :: rest) μ hs) : jw_X mi o k kc ks pc lc (.int (iI (n : Int)) :: .int (iI (m : Int)) :: rest) μ hs := jw_ior hd (iI_or m n) hp kk
theorem zx_shl1 {i : Nat} (hd : decode mi.2.1 pc = .ok (.ishl, 1)) (hi : i < 31) (hp : pc + 1 = pc') (kk : jw_X mi o k kc ks pc' lc (.int (iI ((2 ^ i : Nat) : Int)) :: rest) μ hs) : jw_X mi o k kc ks pc lc (.int (iI (i : Int)) :: .int (iI 1) :: rest) μ hs := jw_ishl hd (by rw [iI_nat, iI_nat]; exact iI_shl i hi) hp kk
theorem zx_iinc {i : Nat} {n x : Int} (hd : decode mi.2.1 pc = .ok (.iinc i n, 3)) (hv : jw_lk lc i = some (.int (iI x))) (hn : i < mi.2.2.1) (hl : jw_sb (jw_s1 lc i (.int (iI (x + n)))) lc') (hp : pc + 3 = pc') (kk : jw_X mi o k kc ks pc' lc' st μ hs) : jw_X mi o k kc ks pc lc st μ hs := jw_iinc hd hv (iI_add x n) hn hl hp kk
theorem zx_if_eq {x : Int} {off : Int} {tgt : Nat} (hx : -2147483648 ≤ x ∧ x < 2147483648) (hd : decode mi.2.1 pc = .ok (.ifCond .eq off, 3)) (ht : (pc : Int) + off = (tgt : Int)) (hp : pc + 3 = pc') (kt : x = 0 → jw_X mi o k kc ks tgt lc rest μ hs) (kf : ¬ x = 0 → jw_X mi o k kc ks pc' lc rest μ hs) : jw_X mi o k kc ks pc lc (.int (iI x) :: rest) μ hs :=
  jw_if_eq hd ht hp (fun q => by rw [iI_0] at q; exact kt ((iI_inj hx (by omega)).mp q)) (fun q => by rw [iI_0] at q; exact kf (fun z => q ((iI_inj hx (by omega)).mpr z)))
theorem zx_icmp_eq {x y : Int} {off : Int} {tgt : Nat} (hx : -2147483648 ≤ x ∧ x < 2147483648) (hy : -2147483648 ≤ y ∧ y < 2147483648) (hd : decode mi.2.1 pc = .ok (.if_icmp .eq off, 3)) (ht : (pc : Int) + off = (tgt : Int)) (hp : pc + 3 = pc') (kt : x = y → jw_X mi o k kc ks tgt lc rest μ hs) (kf : ¬ x = y → jw_X mi o k kc ks pc' lc rest μ hs) : jw_X mi o k kc ks pc lc (.int (iI y) :: .int (iI x) :: rest) μ hs :=
  jw_icmp_eq hd ht hp (fun q => by exact kt ((iI_inj hx hy).mp q)) (fun q => by exact kf (fun z => q ((iI_inj hx hy).mpr z)))
theorem zx_if_ne {x : Int} {off : Int} {tgt : Nat} (hx : -2147483648 ≤ x ∧ x < 2147483648) (hd : decode mi.2.1 pc = .ok (.ifCond .ne off, 3)) (ht : (pc : Int) + off = (tgt : Int)) (hp : pc + 3 = pc') (kt : ¬ x = 0 → jw_X mi o k kc ks tgt lc rest μ hs) (kf : x = 0 → jw_X mi o k kc ks pc' lc rest μ hs) : jw_X mi o k kc ks pc lc (.int (iI x) :: rest) μ hs :=
  jw_if_ne hd ht hp (fun q => by rw [iI_0] at q; exact kt (fun z => q ((iI_inj hx (by omega)).mpr z))) (fun q => by rw [iI_0] at q; exact kf ((iI_inj hx (by omega)).mp q))
theorem zx_icmp_ne {x y : Int} {off : Int} {tgt : Nat} (hx : -2147483648 ≤ x ∧ x < 2147483648) (hy : -2147483648 ≤ y ∧ y < 2147483648) (hd : decode mi.2.1 pc = .ok (.if_icmp .ne off, 3)) (ht : (pc : Int) + off = (tgt : Int)) (hp : pc + 3 = pc') (kt : ¬ x = y → jw_X mi o k kc ks tgt lc rest μ hs) (kf : x = y → jw_X mi o k kc ks pc' lc rest μ hs) : jw_X mi o k kc ks pc lc (.int (iI y) :: .int (iI x) :: rest) μ hs :=
  jw_icmp_ne hd ht hp (fun q => by exact kt (fun z => q ((iI_inj hx hy).mpr z))) (fun q => by exact kf ((iI_inj hx hy).mp q))
theorem zx_if_lt {x : Int} {off : Int} {tgt : Nat} (hx : -2147483648 ≤ x ∧ x < 2147483648) (hd : decode mi.2.1 pc = .ok (.ifCond .lt off, 3)) (ht : (pc : Int) + off = (tgt : Int)) (hp : pc + 3 = pc') (kt : x < 0 → jw_X mi o k kc ks tgt lc rest μ hs) (kf : 0 ≤ x → jw_X mi o k kc ks pc' lc rest μ hs) : jw_X mi o k kc ks pc lc (.int (iI x) :: rest) μ hs :=
  jw_if_lt hd ht hp (fun q => by rw [iI_0] at q; exact kt ((iI_lt hx (by omega)).mp q)) (fun q => by rw [iI_0] at q; exact kf (Int.not_lt.mp (fun z => q ((iI_lt hx (by omega)).mpr z))))
theorem zx_icmp_lt {x y : Int} {off : Int} {tgt : Nat} (hx : -2147483648 ≤ x ∧ x < 2147483648) (hy : -2147483648 ≤ y ∧ y < 2147483648) (hd : decode mi.2.1 pc = .ok (.if_icmp .lt off, 3)) (ht : (pc : Int) + off = (tgt : Int)) (hp : pc + 3 = pc') (kt : x < y → jw_X mi o k kc ks tgt lc rest μ hs) (kf : y ≤ x → jw_X mi o k kc ks pc' lc rest μ hs) : jw_X mi o k kc ks pc lc (.int (iI y) :: .int (iI x) :: rest) μ hs :=
  jw_icmp_lt hd ht hp (fun q => by exact kt ((iI_lt hx hy).mp q)) (fun q => by exact kf (Int.not_lt.mp (fun z => q ((iI_lt hx hy).mpr z))))
theorem zx_if_ge {x : Int} {off : Int} {tgt : Nat} (hx : -2147483648 ≤ x ∧ x < 2147483648) (hd : decode mi.2.1 pc = .ok (.ifCond .ge off, 3)) (ht : (pc : Int) + off = (tgt : Int)) (hp : pc + 3 = pc') (kt : 0 ≤ x → jw_X mi o k kc ks tgt lc rest μ hs) (kf : x < 0 → jw_X mi o k kc ks pc' lc rest μ hs) : jw_X mi o k kc ks pc lc (.int (iI x) :: rest) μ hs :=
  jw_if_ge hd ht hp (fun q => by rw [iI_0] at q; exact kt ((iI_le (by omega) hx).mp q)) (fun q => by rw [iI_0] at q; exact kf (Int.not_le.mp (fun z => q ((iI_le (by omega) hx).mpr z))))
theorem zx_icmp_ge {x y : Int} {off : Int} {tgt : Nat} (hx : -2147483648 ≤ x ∧ x < 2147483648) (hy : -2147483648 ≤ y ∧ y < 2147483648) (hd : decode mi.2.1 pc = .ok (.if_icmp .ge off, 3)) (ht : (pc : Int) + off = (tgt : Int)) (hp : pc + 3 = pc') (kt : y ≤ x → jw_X mi o k kc ks tgt lc rest μ hs) (kf : x < y → jw_X mi o k kc ks pc' lc rest μ hs) : jw_X mi o k kc ks pc lc (.int (iI y) :: .int (iI x) :: rest) μ hs :=
  jw_icmp_ge hd ht hp (fun q => by exact kt ((iI_le hy hx).mp q)) (fun q => by exact kf (Int.not_le.mp (fun z => q ((iI_le hy hx).mpr z))))
theorem zx_if_gt {x : Int} {off : Int} {tgt : Nat} (hx : -2147483648 ≤ x ∧ x < 2147483648) (hd : decode mi.2.1 pc = .ok (.ifCond .gt off, 3)) (ht : (pc : Int) + off = (tgt : Int)) (hp : pc + 3 = pc') (kt : 0 < x → jw_X mi o k kc ks tgt lc rest μ hs) (kf : x ≤ 0 → jw_X mi o k kc ks pc' lc rest μ hs) : jw_X mi o k kc ks pc lc (.int (iI x) :: rest) μ hs :=
  jw_if_gt hd ht hp (fun q => by rw [iI_0] at q; exact kt ((iI_lt (by omega) hx).mp q)) (fun q => by rw [iI_0] at q; exact kf (Int.not_lt.mp (fun z => q ((iI_lt (by omega) hx).mpr z))))
theorem zx_icmp_gt {x y : Int} {off : Int} {tgt : Nat} (hx : -2147483648 ≤ x ∧ x < 2147483648) (hy : -2147483648 ≤ y ∧ y < 2147483648) (hd : decode mi.2.1 pc = .ok (.if_icmp .gt off, 3)) (ht : (pc : Int) + off = (tgt : Int)) (hp : pc + 3 = pc') (kt : y < x → jw_X mi o k kc ks tgt lc rest μ hs) (kf : x ≤ y → jw_X mi o k kc ks pc' lc rest μ hs) : jw_X mi o k kc ks pc lc (.int (iI y) :: .int (iI x) :: rest) μ hs :=
  jw_icmp_gt hd ht hp (fun q => by exact kt ((iI_lt hy hx).mp q)) (fun q => by exact kf (Int.not_lt.mp (fun z => q ((iI_lt hy hx).mpr z))))
theorem zx_if_le {x : Int} {off : Int} {tgt : Nat} (hx : -2147483648 ≤ x ∧ x < 2147483648) (hd : decode mi.2.1 pc = .ok (.ifCond .le off, 3)) (ht : (pc : Int) + off = (tgt : Int)) (hp : pc + 3 = pc') (kt : x ≤ 0 → jw_X mi o k kc ks tgt lc rest μ hs) (kf : 0 < x → jw_X mi o k kc ks pc' lc rest μ hs) : jw_X mi o k kc ks pc lc (.int (iI x) :: rest) μ hs :=
  jw_if_le hd ht hp (fun q => by rw [iI_0] at q; exact kt ((iI_le hx (by omega)).mp q)) (fun q => by rw [iI_0] at q; exact kf (Int.not_le.mp (fun z => q ((iI_le hx (by omega)).mpr z))))
theorem zx_icmp_le {x y : Int} {off : Int} {tgt : Nat} (hx : -2147483648 ≤ x ∧ x < 2147483648) (hy : -2147483648 ≤ y ∧ y < 2147483648) (hd : decode mi.2.1 pc = .ok (.if_icmp .le off, 3)) (ht : (pc : Int) + off = (tgt : Int)) (hp : pc + 3 = pc') (kt : x ≤ y → jw_X mi o k kc ks tgt lc rest μ hs) (kf : y < x → jw_X mi o k kc ks pc' lc rest μ hs) : jw_X mi o k kc ks pc lc (.int (iI y) :: .int (iI x) :: rest) μ hs :=
  jw_icmp_le hd ht hp (fun q => by exact kt ((iI_le hx hy).mp q)) (fun q => by exact kf (Int.not_le.mp (fun z => q ((iI_le hx hy).mpr z))))
theorem zx_getI {a ci kf N idx : Nat} {fs : List Value} {C : String} {T : u_T} (hc : jw_cl[ci]? = some (C, T, N)) (hk : kf < N) (hw : Cond.fieldLink mi.1.cls idx (T kf).1 (T kf).2.1 (T kf).2.2.1 ∈ jw_T) (hd : decode mi.2.1 pc = .ok (.getfield idx, 3)) (ha : mm o σ a = some (.inr (ci, fs))) (hv : fs[kf]? = some (.int (σ a kf))) (hp : pc + 3 = pc') (kk : jw_X mi o k kc ks pc' lc (.int (iI (iv σ a kf)) :: rest) (mm o σ) hs) : jw_X mi o k kc ks pc lc (.ref a :: rest) (mm o σ) hs := jw_get hc hk hw hd ha hv hp (by rw [iI_iv σ a kf] at kk; exact kk)
theorem zx_putI {a ci kf N idx : Nat} {fs : List Value} {C : String} {T : u_T} {v : Int} {w : Int32} (hc : jw_cl[ci]? = some (C, T, N)) (hk : kf < N) (hw : Cond.fieldLink mi.1.cls idx (T kf).1 (T kf).2.1 (T kf).2.2.1 ∈ jw_T) (hd : decode mi.2.1 pc = .ok (.putfield idx, 3)) (hfin : (T kf).2.2.2 = false) (hty : parseFieldDescriptor (T kf).2.2.1 = some .int) (ha : mm o σ a = some (.inr (ci, fs))) (hf : fs[kf]? = some (.int w)) (hp : pc + 3 = pc') (kk : jw_X mi o k kc ks pc' lc rest (mm o (si σ a kf v)) hs) : jw_X mi o k kc ks pc lc (.int (iI v) :: .ref a :: rest) (mm o σ) hs := by
  refine jw_put hc hk hw hd hfin hty ha rfl rfl rfl (List.getElem?_eq_some_iff.mp hf).1 hp (fun μ' h1 h2 => ?_)
  have e : μ' = mm o (si σ a kf v) := by
    funext q
    by_cases hq : q = a
    · rw [hq, h1]; exact (mm_obj o ha hf).symm
    · rw [h2 q hq]; exact (mm_ne o hq).symm
  rw [e]; exact kk
theorem zx_putZ {a ci kf N idx : Nat} {fs : List Value} {C : String} {T : u_T} {v : Int} {w : Int32} (hv : v = 0 ∨ v = 1) (hc : jw_cl[ci]? = some (C, T, N)) (hk : kf < N) (hw : Cond.fieldLink mi.1.cls idx (T kf).1 (T kf).2.1 (T kf).2.2.1 ∈ jw_T) (hd : decode mi.2.1 pc = .ok (.putfield idx, 3)) (hfin : (T kf).2.2.2 = false) (hty : parseFieldDescriptor (T kf).2.2.1 = some .boolean) (ha : mm o σ a = some (.inr (ci, fs))) (hf : fs[kf]? = some (.int w)) (hp : pc + 3 = pc') (kk : jw_X mi o k kc ks pc' lc rest (mm o (si σ a kf v)) hs) : jw_X mi o k kc ks pc lc (.int (iI v) :: .ref a :: rest) (mm o σ) hs := by
  refine jw_put hc hk hw hd hfin hty ha (by rcases hv with rfl | rfl <;> decide) (by rcases hv with rfl | rfl <;> decide) rfl (List.getElem?_eq_some_iff.mp hf).1 hp (fun μ' h1 h2 => ?_)
  have e : μ' = mm o (si σ a kf v) := by
    funext q
    by_cases hq : q = a
    · rw [hq, h1]; exact (mm_obj o ha hf).symm
    · rw [h2 q hq]; exact (mm_ne o hq).symm
  rw [e]; exact kk
theorem zx_iald {a n j : Nat} {x : Int} (hd : decode mi.2.1 pc = .ok (.iaload, 1)) (ha : mm o σ a = some (.inl (o.2.2.1 0, n, .inl (σ a)))) (hx : x = (j : Int)) (hj : j < n) (hn : n < 1000) (hp : pc + 1 = pc') (kk : jw_X mi o k kc ks pc' lc (.int (iI (iv σ a j)) :: rest) (mm o σ) hs) : jw_X mi o k kc ks pc lc (.int (iI x) :: .ref a :: rest) (mm o σ) hs := by
  subst hx
  rw [iI_nat]
  exact jw_iald (i := 0) hd ha rfl (vp_in_nI hj (by omega)) (by rw [nI_clamp (by omega)]; exact (iI_iv σ a j).symm) hp kk
theorem zx_zald {a n j : Nat} {x : Int} (hd : decode mi.2.1 pc = .ok (.baload, 1)) (ha : mm o σ a = some (.inl (o.2.2.1 1, n, .inl (σ a)))) (hx : x = (j : Int)) (hj : j < n) (hn : n < 1000) (hp : pc + 1 = pc') (kk : jw_X mi o k kc ks pc' lc (.int (iI (iv σ a j)) :: rest) (mm o σ) hs) : jw_X mi o k kc ks pc lc (.int (iI x) :: .ref a :: rest) (mm o σ) hs := by
  subst hx
  rw [iI_nat]
  exact jw_zald (i := 1) hd ha rfl (vp_in_nI hj (by omega)) (by rw [nI_clamp (by omega)]; exact (iI_iv σ a j).symm) hp kk
theorem zx_iast {a n j : Nat} {x v : Int} (hd : decode mi.2.1 pc = .ok (.iastore, 1)) (ha : mm o σ a = some (.inl (o.2.2.1 0, n, .inl (σ a)))) (hx : x = (j : Int)) (hj : j < n) (hn : n < 1000) (hp : pc + 1 = pc') (kk : jw_X mi o k kc ks pc' lc rest (mm o (si σ a j v)) hs) : jw_X mi o k kc ks pc lc (.int (iI v) :: .int (iI x) :: .ref a :: rest) (mm o σ) hs := by
  subst hx
  rw [iI_nat]
  refine jw_iast (i := 0) hd ha rfl (vp_in_nI hj (by omega)) hp (fun μ' h1 h2 => ?_)
  rw [nI_clamp (by omega)] at h1
  have e : μ' = mm o (si σ a j v) := by
    funext q
    by_cases hq : q = a
    · rw [hq, h1]; exact (mm_arr o ha).symm
    · rw [h2 q hq]; exact (mm_ne o hq).symm
  rw [e]; exact kk
theorem zx_zast {a n j : Nat} {x v : Int} (hv : v = 0 ∨ v = 1) (hd : decode mi.2.1 pc = .ok (.bastore, 1)) (ha : mm o σ a = some (.inl (o.2.2.1 1, n, .inl (σ a)))) (hx : x = (j : Int)) (hj : j < n) (hn : n < 1000) (hp : pc + 1 = pc') (kk : jw_X mi o k kc ks pc' lc rest (mm o (si σ a j v)) hs) : jw_X mi o k kc ks pc lc (.int (iI v) :: .int (iI x) :: .ref a :: rest) (mm o σ) hs := by
  subst hx
  rw [iI_nat]
  refine jw_zast (i := 1) hd ha rfl (vp_in_nI hj (by omega)) hp (fun μ' h1 h2 => ?_)
  rw [nI_clamp (by omega), show vp_nar .boolean (iI v) = iI v by rcases hv with rfl | rfl <;> decide] at h1
  have e : μ' = mm o (si σ a j v) := by
    funext q
    by_cases hq : q = a
    · rw [hq, h1]; exact (mm_arr o ha).symm
    · rw [h2 q hq]; exact (mm_ne o hq).symm
  rw [e]; exact kk
theorem zx_aald {a n i j q : Nat} {x : Int} {C : String} {f : Nat → Option Nat} (hd : decode mi.2.1 pc = .ok (.aaload, 1)) (ha : μ a = some (.inl (o.2.2.1 i, n, .inr (.inr (.inr (.inr f)))))) (ht : (jw_tys o.2.2.1)[i]? = some (o.2.2.1 i, .object C)) (hx : x = (j : Int)) (hj : j < n) (hn : n < 1000) (hf : f j = some q) (hp : pc + 1 = pc') (kk : jw_X mi o k kc ks pc' lc (.ref q :: rest) μ hs) : jw_X mi o k kc ks pc lc (.int (iI x) :: .ref a :: rest) μ hs := by
  subst hx
  rw [iI_nat]
  exact jw_aald hd ha ht (vp_in_nI hj (by omega)) (by rw [nI_clamp (by omega), hf]; rfl) hp kk
theorem zx_alen {a n i : Nat} {cA : ClassId} {y : vp_A} {ty : FieldType} (hd : decode mi.2.1 pc = .ok (.arraylength, 1)) (ha : μ a = some (.inl (cA, y))) (hy : y.1 = n) (ht : (jw_tys o.2.2.1)[i]? = some (cA, ty)) (hp : pc + 1 = pc') (kk : jw_X mi o k kc ks pc' lc (.int (iI (n : Int)) :: rest) μ hs) : jw_X mi o k kc ks pc lc (.ref a :: rest) μ hs := jw_alen hd ha ht (by rw [hy, iI_nat]; rfl) hp kk
theorem jw_mmin {d mc ms idx : Nat} {x y v : Int32} (hR : jw_Rm k d mc ms) (hw : Cond.methodLink mi.1.cls idx Lib.Math.min.name ∈ jw_T) (hd : decode mi.2.1 pc = .ok (.invokestatic idx, 3)) (hrs : (rest.map fun v => v.category).sum ≤ 8) (hdd : 1 ≤ d) (h1 : kc ≤ mc) (h2 : ks ≤ ms) (hv : (if y < x then y else x) = v) (hp : pc + 3 = pc') (kk : jw_X mi o k kc ks pc' lc (.int v :: rest) μ hs) : jw_X mi o k kc ks pc lc (.int y :: .int x :: rest) μ hs := by
  subst hp; subst hv
  intro C0 H locs ls e1 e2 e3 e4
  obtain ⟨r1, r2, r3, r4⟩ := hR
  exact va_mmin C0.1 C0.2.1 (C0.2.2.2.1.trans e4.1.symm) C0.own (C0.ts _ hw) (C0.ts _ jq_418) (C0.ts _ jq_37) (C0.ts (Cond.code Lib.Math.min.name Lib.Math.min.code 2 (some .int)) (jw_mem 419 (by decide +kernel) (by decide +kernel))) (Nat.le_trans hdd r1) (by omega) (Nat.le_trans h1 r3) (Nat.le_trans h2 r4) hd (kk C0 H locs ls e1 e2 e3 e4)
theorem jw_mmax {d mc ms idx : Nat} {x y v : Int32} (hR : jw_Rm k d mc ms) (hw : Cond.methodLink mi.1.cls idx Lib.Math.max.name ∈ jw_T) (hd : decode mi.2.1 pc = .ok (.invokestatic idx, 3)) (hrs : (rest.map fun v => v.category).sum ≤ 8) (hdd : 1 ≤ d) (h1 : kc ≤ mc) (h2 : ks ≤ ms) (hv : (if x < y then y else x) = v) (hp : pc + 3 = pc') (kk : jw_X mi o k kc ks pc' lc (.int v :: rest) μ hs) : jw_X mi o k kc ks pc lc (.int y :: .int x :: rest) μ hs := by
  subst hp; subst hv
  intro C0 H locs ls e1 e2 e3 e4
  obtain ⟨r1, r2, r3, r4⟩ := hR
  exact va_mmax C0.1 C0.2.1 (C0.2.2.2.1.trans e4.1.symm) C0.own (C0.ts _ hw) (C0.ts _ jq_567) (C0.ts _ jq_37) (C0.ts (Cond.code Lib.Math.max.name Lib.Math.max.code 2 (some .int)) (jw_mem 568 (by decide +kernel) (by decide +kernel))) (Nat.le_trans hdd r1) (by omega) (Nat.le_trans h1 r3) (Nat.le_trans h2 r4) hd (kk C0 H locs ls e1 e2 e3 e4)
theorem zx_mmin {d mc ms idx : Nat} {x y : Int} (hx : -2147483648 ≤ x ∧ x < 2147483648) (hy : -2147483648 ≤ y ∧ y < 2147483648) (hR : jw_Rm k d mc ms) (hw : Cond.methodLink mi.1.cls idx Lib.Math.min.name ∈ jw_T) (hd : decode mi.2.1 pc = .ok (.invokestatic idx, 3)) (hrs : (rest.map fun v => v.category).sum ≤ 8) (hdd : 1 ≤ d) (h1 : kc ≤ mc) (h2 : ks ≤ ms) (hp : pc + 3 = pc') (kk : jw_X mi o k kc ks pc' lc (.int (iI (min x y)) :: rest) μ hs) : jw_X mi o k kc ks pc lc (.int (iI y) :: .int (iI x) :: rest) μ hs := jw_mmin hR hw hd hrs hdd h1 h2 (by
    by_cases h : y < x
    · rw [if_pos ((iI_lt hy hx).mpr h), show min x y = y by omega]
    · rw [if_neg (fun q => h ((iI_lt hy hx).mp q)), show min x y = x by omega]) hp kk
theorem zx_mmax {d mc ms idx : Nat} {x y : Int} (hx : -2147483648 ≤ x ∧ x < 2147483648) (hy : -2147483648 ≤ y ∧ y < 2147483648) (hR : jw_Rm k d mc ms) (hw : Cond.methodLink mi.1.cls idx Lib.Math.max.name ∈ jw_T) (hd : decode mi.2.1 pc = .ok (.invokestatic idx, 3)) (hrs : (rest.map fun v => v.category).sum ≤ 8) (hdd : 1 ≤ d) (h1 : kc ≤ mc) (h2 : ks ≤ ms) (hp : pc + 3 = pc') (kk : jw_X mi o k kc ks pc' lc (.int (iI (max x y)) :: rest) μ hs) : jw_X mi o k kc ks pc lc (.int (iI y) :: .int (iI x) :: rest) μ hs := jw_mmax hR hw hd hrs hdd h1 h2 (by
    by_cases h : x < y
    · rw [if_pos ((iI_lt hx hy).mpr h), show max x y = y by omega]
    · rw [if_neg (fun q => h ((iI_lt hx hy).mp q)), show max x y = x by omega]) hp kk
end
/-! contracts over the memory of numbers -/
def zP (o : jw_O) (hs : Nat) (Φ : Option Value → zS → Prop) : Option Value → jw_Mem → Nat → Prop := fun v μ' s' => s' = hs ∧ ∃ σ', μ' = mm o σ' ∧ Φ v σ'
def zSpec (mi : jw_M) (d : Nat) (o : jw_O) (As : List Value) (σ : zS) (Φ : Option Value → zS → Prop) : Prop := ∀ hs, jw_Spec mi d 0 0 o As (mm o σ) hs (zP o hs Φ)
def zRo (mi : jw_M) (d : Nat) (o : jw_O) (As : List Value) (σ : zS) (v : Option Value) : Prop := zSpec mi d o As σ (fun v' σ' => v' = v ∧ σ' = σ)
theorem z_spec {mi : jw_M} {o : jw_O} {d : Nat} {As : List Value} {σ : zS} {Φ : Option Value → zS → Prop} {lc : List (Nat × Value)} (hy : plainName mi.1.cls = true) (hn : (lg_sl As).length ≤ mi.2.2.1) (hlc : lv_args 0 As = lc) (body : ∀ (k : jw_K) (hs : Nat), jw_Rm k d 0 0 → jw_E o k 0 0 (zP o hs Φ) → jw_X mi o k 0 0 0 lc [] (mm o σ) hs) : zSpec mi d o As σ Φ := fun hs => jw_spec hy hn hlc (fun k => body k hs)
section
variable {mi : jw_M} {o : jw_O} {k : jw_K} {kc ks pc pc' : Nat} {lc lc' : List (Nat × Value)} {st rest : List Value} {σ : zS} {hs : Nat} {Φ : Option Value → zS → Prop}
theorem zx_zret {v : Int} (hv : v = 0 ∨ v = 1) (hE : jw_E o k 0 0 (zP o hs Φ)) (hd : decode mi.2.1 pc = .ok (.ireturn, 1)) (hr : mi.2.2.2 = some .boolean) (h : Φ (some (.int (iI v))) σ) : jw_X mi o k 0 0 pc lc [.int (iI v)] (mm o σ) hs := jw_zret hE hd hr (by rcases hv with rfl | rfl <;> decide) (Nat.le_refl _) (Nat.le_refl _) ⟨rfl, σ, rfl, h⟩
theorem zx_iret {v : Int} (hE : jw_E o k 0 0 (zP o hs Φ)) (hd : decode mi.2.1 pc = .ok (.ireturn, 1)) (hr : mi.2.2.2 = some .int) (h : Φ (some (.int (iI v))) σ) : jw_X mi o k 0 0 pc lc [.int (iI v)] (mm o σ) hs := jw_iret hE hd hr (Nat.le_refl _) (Nat.le_refl _) ⟨rfl, σ, rfl, h⟩
theorem zx_lret {v : Int64} (hE : jw_E o k 0 0 (zP o hs Φ)) (hd : decode mi.2.1 pc = .ok (.lreturn, 1)) (hr : mi.2.2.2 = some .long) (h : Φ (some (.long v)) σ) : jw_X mi o k 0 0 pc lc [.long v] (mm o σ) hs := jw_lret hE hd hr (Nat.le_refl _) (Nat.le_refl _) ⟨rfl, σ, rfl, h⟩
theorem zx_vret (hE : jw_E o k 0 0 (zP o hs Φ)) (hd : decode mi.2.1 pc = .ok (.return_, 1)) (hr : mi.2.2.2 = none) (h : Φ none σ) : jw_X mi o k 0 0 pc lc [] (mm o σ) hs := jw_vret hE hd hr (Nat.le_refl _) (Nat.le_refl _) ⟨rfl, σ, rfl, h⟩
theorem zx_aret {a : Nat} {n : String} (hE : jw_E o k 0 0 (zP o hs Φ)) (hd : decode mi.2.1 pc = .ok (.areturn, 1)) (hr : mi.2.2.2 = some (.object n)) (h : Φ (some (.ref a)) σ) : jw_X mi o k 0 0 pc lc [.ref a] (mm o σ) hs := jw_aret hE hd hr (Or.inl ⟨_, rfl⟩) (Or.inr ⟨_, rfl⟩) (Nat.le_refl _) (Nat.le_refl _) ⟨rfl, σ, rfl, h⟩
theorem zx_callV {mj : jw_M} {d d' a ci n idx : Nat} {As : List Value} {fs : List Value} {T : u_T} {N : Nat} (hR : jw_Rm k d 0 0) (hS : zSpec mj d' o (.ref a :: As) σ Φ) (hm : jw_mV mj n) (hw : Cond.methodLink mi.1.cls idx mj.1 ∈ jw_T) (hc : jw_cl[ci]? = some (mj.1.cls, T, N)) (hd : decode mi.2.1 pc = .ok (.invokevirtual idx, 3)) (ha : mm o σ a = some (.inr (ci, fs))) (hn : As.length = n) (hst : As.reverse ++ .ref a :: rest = st) (hrs : (rest.map fun v => v.category).sum ≤ 8) (hdd : d' + 1 ≤ d) (hml : mj.2.2.1 ≤ 21) (hp : pc + 3 = pc') (kk : ∀ (v : Option Value) (σ' : zS), Φ v σ' → jw_X mi o k 0 0 pc' lc (v.toList ++ rest) (mm o σ') hs) : jw_X mi o k 0 0 pc lc st (mm o σ) hs :=
  jw_callV hR (hS hs) hm hw hc hd ha hn hst hrs hdd hml (Nat.le_refl _) (Nat.le_refl _) hp (fun v μ' s' q _ => by obtain ⟨rfl, σ', rfl, q⟩ := q; exact kk v σ' q)
theorem zx_callV0 {mj : jw_M} {d d' a ci n idx : Nat} {As : List Value} {v : Option Value} {st' : List Value} {fs : List Value} {T : u_T} {N : Nat} (hR : jw_Rm k d 0 0) (hS : zRo mj d' o (.ref a :: As) σ v) (hm : jw_mV mj n) (hw : Cond.methodLink mi.1.cls idx mj.1 ∈ jw_T) (hc : jw_cl[ci]? = some (mj.1.cls, T, N)) (hd : decode mi.2.1 pc = .ok (.invokevirtual idx, 3)) (ha : mm o σ a = some (.inr (ci, fs))) (hn : As.length = n) (hst : As.reverse ++ .ref a :: rest = st) (hrs : (rest.map fun v => v.category).sum ≤ 8) (hdd : d' + 1 ≤ d) (hml : mj.2.2.1 ≤ 21) (hp : pc + 3 = pc') (hv : v.toList ++ rest = st') (kk : jw_X mi o k 0 0 pc' lc st' (mm o σ) hs) : jw_X mi o k 0 0 pc lc st (mm o σ) hs :=
  zx_callV hR hS hm hw hc hd ha hn hst hrs hdd hml hp (fun v' σ' q => by obtain ⟨rfl, rfl⟩ := q; rw [hv]; exact kk)
theorem zx_callS {mj : jw_M} {d d' n idx : Nat} {As : List Value} (hR : jw_Rm k d 0 0) (hS : zSpec mj d' o As σ Φ) (hm : jw_mS mj n) (hw : Cond.methodLink mi.1.cls idx mj.1 ∈ jw_T) (hd : decode mi.2.1 pc = .ok (.invokestatic idx, 3)) (hn : As.length = n) (hst : As.reverse ++ rest = st) (hrs : (rest.map fun v => v.category).sum ≤ 8) (hdd : d' + 1 ≤ d) (hml : mj.2.2.1 ≤ 21) (hp : pc + 3 = pc') (kk : ∀ (v : Option Value) (σ' : zS), Φ v σ' → jw_X mi o k 0 0 pc' lc (v.toList ++ rest) (mm o σ') hs) : jw_X mi o k 0 0 pc lc st (mm o σ) hs :=
  jw_callS hR (hS hs) hm hw hd hn hst hrs hdd hml (Nat.le_refl _) (Nat.le_refl _) hp (fun v μ' s' q _ => by obtain ⟨rfl, σ', rfl, q⟩ := q; exact kk v σ' q)
theorem zx_callS0 {mj : jw_M} {d d' n idx : Nat} {As : List Value} {v : Option Value} {st' : List Value} (hR : jw_Rm k d 0 0) (hS : zRo mj d' o As σ v) (hm : jw_mS mj n) (hw : Cond.methodLink mi.1.cls idx mj.1 ∈ jw_T) (hd : decode mi.2.1 pc = .ok (.invokestatic idx, 3)) (hn : As.length = n) (hst : As.reverse ++ rest = st) (hrs : (rest.map fun v => v.category).sum ≤ 8) (hdd : d' + 1 ≤ d) (hml : mj.2.2.1 ≤ 21) (hp : pc + 3 = pc') (hv : v.toList ++ rest = st') (kk : jw_X mi o k 0 0 pc' lc st' (mm o σ) hs) : jw_X mi o k 0 0 pc lc st (mm o σ) hs :=
  zx_callS hR hS hm hw hd hn hst hrs hdd hml hp (fun v' σ' q => by obtain ⟨rfl, rfl⟩ := q; rw [hv]; exact kk)
theorem zx_callI {mj : jw_M} {d d' a n idx : Nat} {As : List Value} (hR : jw_Rm k d 0 0) (hS : zSpec mj d' o (.ref a :: As) σ Φ) (hm : jw_mI mj n) (hw : Cond.methodLink mi.1.cls idx mj.1 ∈ jw_T) (hd : decode mi.2.1 pc = .ok (.invokespecial idx, 3)) (hn : As.length = n) (hst : As.reverse ++ .ref a :: rest = st) (hrs : (rest.map fun v => v.category).sum ≤ 8) (hdd : d' + 1 ≤ d) (hml : mj.2.2.1 ≤ 21) (hp : pc + 3 = pc') (kk : ∀ (v : Option Value) (σ' : zS), Φ v σ' → jw_X mi o k 0 0 pc' lc (v.toList ++ rest) (mm o σ') hs) : jw_X mi o k 0 0 pc lc st (mm o σ) hs :=
  jw_callI hR (hS hs) hm hw hd hn hst hrs hdd hml (Nat.le_refl _) (Nat.le_refl _) hp (fun v μ' s' q _ => by obtain ⟨rfl, σ', rfl, q⟩ := q; exact kk v σ' q)
theorem zx_callI0 {mj : jw_M} {d d' a n idx : Nat} {As : List Value} {v : Option Value} {st' : List Value} (hR : jw_Rm k d 0 0) (hS : zRo mj d' o (.ref a :: As) σ v) (hm : jw_mI mj n) (hw : Cond.methodLink mi.1.cls idx mj.1 ∈ jw_T) (hd : decode mi.2.1 pc = .ok (.invokespecial idx, 3)) (hn : As.length = n) (hst : As.reverse ++ .ref a :: rest = st) (hrs : (rest.map fun v => v.category).sum ≤ 8) (hdd : d' + 1 ≤ d) (hml : mj.2.2.1 ≤ 21) (hp : pc + 3 = pc') (hv : v.toList ++ rest = st') (kk : jw_X mi o k 0 0 pc' lc st' (mm o σ) hs) : jw_X mi o k 0 0 pc lc st (mm o σ) hs :=
  zx_callI hR hS hm hw hd hn hst hrs hdd hml hp (fun v' σ' q => by obtain ⟨rfl, rfl⟩ := q; rw [hv]; exact kk)
theorem zx_callIN {mj : jw_M} {d d' a n idx : Nat} {host : String} {As : List Value} (hR : jw_Rm k d 0 0) (hS : zSpec mj d' o (.ref a :: As) σ Φ) (hm : jw_mI mj n) (hw : (mi.1.cls, idx, mj.1, host) ∈ jw_nest) (hd : decode mi.2.1 pc = .ok (.invokespecial idx, 3)) (hn : As.length = n) (hst : As.reverse ++ .ref a :: rest = st) (hrs : (rest.map fun v => v.category).sum ≤ 8) (hdd : d' + 1 ≤ d) (hml : mj.2.2.1 ≤ 21) (hp : pc + 3 = pc') (kk : ∀ (v : Option Value) (σ' : zS), Φ v σ' → jw_X mi o k 0 0 pc' lc (v.toList ++ rest) (mm o σ') hs) : jw_X mi o k 0 0 pc lc st (mm o σ) hs :=
  jw_callIN hR (hS hs) hm hw hd hn hst hrs hdd hml (Nat.le_refl _) (Nat.le_refl _) hp (fun v μ' s' q _ => by obtain ⟨rfl, σ', rfl, q⟩ := q; exact kk v σ' q)
theorem zx_callIN0 {mj : jw_M} {d d' a n idx : Nat} {host : String} {As : List Value} {v : Option Value} {st' : List Value} (hR : jw_Rm k d 0 0) (hS : zRo mj d' o (.ref a :: As) σ v) (hm : jw_mI mj n) (hw : (mi.1.cls, idx, mj.1, host) ∈ jw_nest) (hd : decode mi.2.1 pc = .ok (.invokespecial idx, 3)) (hn : As.length = n) (hst : As.reverse ++ .ref a :: rest = st) (hrs : (rest.map fun v => v.category).sum ≤ 8) (hdd : d' + 1 ≤ d) (hml : mj.2.2.1 ≤ 21) (hp : pc + 3 = pc') (hv : v.toList ++ rest = st') (kk : jw_X mi o k 0 0 pc' lc st' (mm o σ) hs) : jw_X mi o k 0 0 pc lc st (mm o σ) hs :=
  zx_callIN hR hS hm hw hd hn hst hrs hdd hml hp (fun v' σ' q => by obtain ⟨rfl, rfl⟩ := q; rw [hv]; exact kk)
theorem zx_callSN {mj : jw_M} {d d' n idx : Nat} {host : String} {As : List Value} (hR : jw_Rm k d 0 0) (hS : zSpec mj d' o As σ Φ) (hm : jw_mS mj n) (hw : (mi.1.cls, idx, mj.1, host) ∈ jw_nest) (hd : decode mi.2.1 pc = .ok (.invokestatic idx, 3)) (hn : As.length = n) (hst : As.reverse ++ rest = st) (hrs : (rest.map fun v => v.category).sum ≤ 8) (hdd : d' + 1 ≤ d) (hml : mj.2.2.1 ≤ 21) (hp : pc + 3 = pc') (kk : ∀ (v : Option Value) (σ' : zS), Φ v σ' → jw_X mi o k 0 0 pc' lc (v.toList ++ rest) (mm o σ') hs) : jw_X mi o k 0 0 pc lc st (mm o σ) hs :=
  jw_callSN hR (hS hs) hm hw hd hn hst hrs hdd hml (Nat.le_refl _) (Nat.le_refl _) hp (fun v μ' s' q _ => by obtain ⟨rfl, σ', rfl, q⟩ := q; exact kk v σ' q)
theorem zx_callSN0 {mj : jw_M} {d d' n idx : Nat} {host : String} {As : List Value} {v : Option Value} {st' : List Value} (hR : jw_Rm k d 0 0) (hS : zRo mj d' o As σ v) (hm : jw_mS mj n) (hw : (mi.1.cls, idx, mj.1, host) ∈ jw_nest) (hd : decode mi.2.1 pc = .ok (.invokestatic idx, 3)) (hn : As.length = n) (hst : As.reverse ++ rest = st) (hrs : (rest.map fun v => v.category).sum ≤ 8) (hdd : d' + 1 ≤ d) (hml : mj.2.2.1 ≤ 21) (hp : pc + 3 = pc') (hv : v.toList ++ rest = st') (kk : jw_X mi o k 0 0 pc' lc st' (mm o σ) hs) : jw_X mi o k 0 0 pc lc st (mm o σ) hs :=
  zx_callSN hR hS hm hw hd hn hst hrs hdd hml hp (fun v' σ' q => by obtain ⟨rfl, rfl⟩ := q; rw [hv]; exact kk)
end
/-! the kinds of cells -/
def sC (j : Nat) : Prop := zt[j]? = some (0, 0, [j + 2, 0, 0]) ∧ zt[j + 1]? = some (20, 10, [])
def sM (j : Nat) : Prop := zt[j]? = some (2, 0, [j + 2, j + 3, j + 4]) ∧ zt[j + 1]? = some (20, 121, []) ∧ zt[j + 2]? = some (20, 10, []) ∧ zt[j + 3]? = some (20, 10, [])
def sT (j : Nat) : Prop := zt[j]? = some (1, 0, [j + 2, j + 3]) ∧ zt[j + 1]? = some (22, 12, (List.range 12).map (fun p => j + 4 + 2 * p)) ∧ ∀ p, p < 13 → zt[j + 2 + 2 * p]? = some (0, 0, [j + 2 + 2 * p + 2, 0, 0]) ∧ zt[j + 2 + 2 * p + 1]? = some (20, 10, [])
def sR (j : Nat) : Prop := zt[j]? = some (3, 0, [j + 2, j + 3, j + 4, 0]) ∧ zt[j + 1]? = some (20, 12, []) ∧ zt[j + 2]? = some (20, 12, []) ∧ zt[j + 3]? = some (2, 0, [j + 5, j + 6, j + 7]) ∧ zt[j + 4]? = some (20, 121, []) ∧ zt[j + 5]? = some (20, 10, []) ∧ zt[j + 6]? = some (20, 10, [])
def sK (j : Nat) : Prop := zt[j]? = some (5, 0, [j + 2, j + 3, 0]) ∧ zt[j + 1]? = some (20, 24, []) ∧ zt[j + 2]? = some (20, 24, [])
def isC (o : jw_O) (c : Nat) : Prop := ∃ j, c = zb o + j ∧ sC j
def isM (o : jw_O) (c : Nat) : Prop := ∃ j, c = zb o + j ∧ sM j
def isT (o : jw_O) (c : Nat) : Prop := ∃ j, c = zb o + j ∧ sT j
def isR (o : jw_O) (c : Nat) : Prop := ∃ j, c = zb o + j ∧ sR j
def isK (o : jw_O) (c : Nat) : Prop := ∃ j, c = zb o + j ∧ sK j
section
variable {o : jw_O} {c : Nat} (σ : zS)
theorem mc_Content (h : isC o c) : mm o σ c = some (.inr (0, [.ref (c + 1), .int (σ c 1), .int (σ c 2)])) := by
  obtain ⟨j, rfl, h1, -⟩ := h
  exact mm_at o σ h1
theorem ml_Content_lines (h : isC o c) : mm o σ (c + 1) = some (.inl (o.2.2.1 0, 10, .inl (σ (c + 1)))) := by
  obtain ⟨j, rfl, -, h1⟩ := h
  exact mm_at o σ (j := j + 1) h1
theorem mc_Match (h : isM o c) : mm o σ c = some (.inr (2, [.ref (c + 1), .ref (c + 2), .ref (c + 3)])) := by
  obtain ⟨j, rfl, h1, -⟩ := h
  exact mm_at o σ h1
theorem ml_Match_common (h : isM o c) : mm o σ (c + 1) = some (.inl (o.2.2.1 0, 121, .inl (σ (c + 1)))) := by
  obtain ⟨j, rfl, -, h1, -⟩ := h
  exact mm_at o σ (j := j + 1) h1
theorem ml_Match_partnersInB (h : isM o c) : mm o σ (c + 2) = some (.inl (o.2.2.1 0, 10, .inl (σ (c + 2)))) := by
  obtain ⟨j, rfl, -, -, h1, -⟩ := h
  exact mm_at o σ (j := j + 2) h1
theorem ml_Match_partnersInA (h : isM o c) : mm o σ (c + 3) = some (.inl (o.2.2.1 0, 10, .inl (σ (c + 3)))) := by
  obtain ⟨j, rfl, -, -, -, h1⟩ := h
  exact mm_at o σ (j := j + 3) h1
theorem mc_Tree (h : isT o c) : mm o σ c = some (.inr (1, [.ref (c + 1), .ref (c + 2)])) := by
  obtain ⟨j, rfl, h1, -⟩ := h
  exact mm_at o σ h1
def fA (t p : Nat) : Nat := t + 4 + 2 * p
theorem ml_Tree_files (h : isT o c) : ∃ f, mm o σ (c + 1) = some (.inl (o.2.2.1 2, 12, .inr (.inr (.inr (.inr f))))) ∧ ∀ p, p < 12 → f p = some (fA c p) := by
  obtain ⟨j, rfl, -, h1, -⟩ := h
  refine ⟨_, mm_at o σ (j := j + 1) h1, fun p hp => ?_⟩
  rw [List.getElem?_map, List.getElem?_range hp]
  show some (zb o + (j + 4 + 2 * p)) = some (zb o + j + 4 + 2 * p)
  congr 1
  omega
theorem isT.f (h : isT o c) {p : Nat} (hp : p < 12) : isC o (fA c p) := by
  obtain ⟨j, rfl, -, -, h1⟩ := h
  have h2 := h1 (p + 1) (by omega)
  rw [show j + 2 + 2 * (p + 1) = j + 4 + 2 * p by omega] at h2
  exact ⟨j + 4 + 2 * p, by unfold fA; omega, h2.1, h2.2⟩
theorem isT.out (h : isT o c) : isC o (c + 2) := by
  obtain ⟨j, rfl, -, -, h1⟩ := h
  have h2 := h1 0 (by omega)
  exact ⟨j + 2, by omega, h2.1, h2.2⟩
theorem mc_Renames (h : isR o c) : mm o σ c = some (.inr (3, [.ref (c + 1), .ref (c + 2), .ref (c + 3), .int (σ c 3)])) := by
  obtain ⟨j, rfl, h1, -⟩ := h
  exact mm_at o σ h1
theorem ml_Renames_fates (h : isR o c) : mm o σ (c + 1) = some (.inl (o.2.2.1 0, 12, .inl (σ (c + 1)))) := by
  obtain ⟨j, rfl, -, h1, -⟩ := h
  exact mm_at o σ (j := j + 1) h1
theorem ml_Renames_sources (h : isR o c) : mm o σ (c + 2) = some (.inl (o.2.2.1 0, 12, .inl (σ (c + 2)))) := by
  obtain ⟨j, rfl, -, -, h1, -⟩ := h
  exact mm_at o σ (j := j + 2) h1
theorem isR.m (h : isR o c) : isM o (c + 3) := by
  obtain ⟨j, rfl, -, -, -, h1, h2, h3, h4⟩ := h
  exact ⟨j + 3, by omega, h1, h2, h3, h4⟩
theorem mc_Conflicts (h : isK o c) : mm o σ c = some (.inr (5, [.ref (c + 1), .ref (c + 2), .int (σ c 2)])) := by
  obtain ⟨j, rfl, h1, -⟩ := h
  exact mm_at o σ h1
theorem ml_Conflicts_codes (h : isK o c) : mm o σ (c + 1) = some (.inl (o.2.2.1 0, 24, .inl (σ (c + 1)))) := by
  obtain ⟨j, rfl, -, h1, -⟩ := h
  exact mm_at o σ (j := j + 1) h1
theorem ml_Conflicts_paths (h : isK o c) : mm o σ (c + 2) = some (.inl (o.2.2.1 0, 24, .inl (σ (c + 2)))) := by
  obtain ⟨j, rfl, -, -, h1⟩ := h
  exact mm_at o σ (j := j + 2) h1
end
/-! the single ones, and where the others stand -/
section
variable {o : jw_O} (σ : zS)
theorem mc_Branchwork : mm o σ (zb o) = some (.inr (8, [.ref (zb o + 1), .ref (zb o + 29), .ref (zb o + 905), .ref (zb o + 969), .ref (zb o + 972), .ref (zb o + 979), .ref (zb o + 983), .int (σ (zb o) 7), .int (σ (zb o) 8), .int (σ (zb o) 9)])) := mm_at o σ (j := 0) (r := (8, 0, [2, 30, 906, 970, 973, 980, 984, 0, 0, 0])) (by decide +kernel)
theorem ml_Branchwork_tips : mm o σ (zb o + 983) = some (.inl (o.2.2.1 0, 5, .inl (σ (zb o + 983)))) := mm_at o σ (j := 983) (r := (20, 5, [])) (by decide +kernel)
theorem mc_History : mm o σ (zb o + 29) = some (.inr (7, [.ref (zb o + 30), .ref (zb o + 31), .ref (zb o + 59), .ref (zb o + 60), .ref (zb o + 61), .ref (zb o + 62), .ref (zb o + 63), .ref (zb o + 64), .int (σ (zb o + 29) 8), .int (σ (zb o + 29) 9)])) := mm_at o σ (j := 29) (r := (7, 0, [31, 32, 60, 61, 62, 63, 64, 65, 0, 0])) (by decide +kernel)
theorem ml_History_notes : mm o σ (zb o + 59) = some (.inl (o.2.2.1 0, 30, .inl (σ (zb o + 59)))) := mm_at o σ (j := 59) (r := (20, 30, [])) (by decide +kernel)
theorem ml_History_firstParents : mm o σ (zb o + 60) = some (.inl (o.2.2.1 0, 30, .inl (σ (zb o + 60)))) := mm_at o σ (j := 60) (r := (20, 30, [])) (by decide +kernel)
theorem ml_History_secondParents : mm o σ (zb o + 61) = some (.inl (o.2.2.1 0, 30, .inl (σ (zb o + 61)))) := mm_at o σ (j := 61) (r := (20, 30, [])) (by decide +kernel)
theorem ml_History_treeNumbers : mm o σ (zb o + 62) = some (.inl (o.2.2.1 0, 30, .inl (σ (zb o + 62)))) := mm_at o σ (j := 62) (r := (20, 30, [])) (by decide +kernel)
theorem ml_History_contentNumbers : mm o σ (zb o + 63) = some (.inl (o.2.2.1 0, 360, .inl (σ (zb o + 63)))) := mm_at o σ (j := 63) (r := (20, 360, [])) (by decide +kernel)
theorem ml_History_metContents : mm o σ (zb o + 64) = some (.inl (o.2.2.1 0, 360, .inl (σ (zb o + 64)))) := mm_at o σ (j := 64) (r := (20, 360, [])) (by decide +kernel)
def tA (o : jw_O) (i : Nat) : Nat := zb o + 65 + 28 * i
theorem zt_trees : zt[30]? = some (23, 30, (List.range 30).map (fun i => 65 + 28 * i)) := by decide +kernel
theorem ml_History_trees : ∃ f, mm o σ (zb o + 30) = some (.inl (o.2.2.1 3, 30, .inr (.inr (.inr (.inr f))))) ∧ ∀ p, p < 30 → f p = some (tA o p) := by
  refine ⟨_, mm_at o σ (j := 30) zt_trees, fun p hp => ?_⟩
  rw [List.getElem?_map, List.getElem?_range hp]
  show some (zb o + (65 + 28 * p)) = some (zb o + 65 + 28 * p)
  congr 1
  omega
theorem mc_Merger : mm o σ (zb o + 905) = some (.inr (6, [.ref (zb o + 906), .ref (zb o + 934), .ref (zb o + 937), .ref (zb o + 944), .ref (zb o + 951), .ref (zb o + 966), .ref (zb o + 968)])) := mm_at o σ (j := 905) (r := (6, 0, [907, 935, 938, 945, 952, 967, 969])) (by decide +kernel)
theorem ml_Merger_newFromOurs : mm o σ (zb o + 968) = some (.inl (o.2.2.1 1, 12, .inl (σ (zb o + 968)))) := mm_at o σ (j := 968) (r := (21, 12, [])) (by decide +kernel)
theorem mc_Blender : mm o σ (zb o + 951) = some (.inr (4, [.ref (zb o + 952), .ref (zb o + 956), .ref (zb o + 960), .ref (zb o + 962), .ref (zb o + 964)])) := mm_at o σ (j := 951) (r := (4, 0, [953, 957, 961, 963, 965])) (by decide +kernel)
theorem zt_tree1 : ∀ i, i < 30 → zt[65 + 28 * i]? = some (1, 0, [65 + 28 * i + 2, 65 + 28 * i + 3]) := by decide +kernel
theorem zt_tree2 : ∀ i, i < 30 → zt[65 + 28 * i + 1]? = some (22, 12, (List.range 12).map (fun p => 65 + 28 * i + 4 + 2 * p)) := by decide +kernel
theorem zt_tree3 : ∀ i, i < 30 → ∀ p, p < 13 → zt[65 + 28 * i + 2 + 2 * p]? = some (0, 0, [65 + 28 * i + 2 + 2 * p + 2, 0, 0]) := by decide +kernel
theorem zt_tree4 : ∀ i, i < 30 → ∀ p, p < 13 → zt[65 + 28 * i + 2 + 2 * p + 1]? = some (20, 10, []) := by decide +kernel
theorem zt_tree : ∀ i, i < 30 → sT (65 + 28 * i) := fun i hi => ⟨zt_tree1 i hi, zt_tree2 i hi, fun p hp => ⟨zt_tree3 i hi p hp, zt_tree4 i hi p hp⟩⟩
theorem isT_i {i : Nat} (hi : i < 30) : isT o (tA o i) := ⟨65 + 28 * i, by unfold tA; omega, zt_tree i hi⟩
theorem isT_work : isT o (zb o + 1) := ⟨1, rfl, by unfold sT; decide +kernel⟩
theorem isT_none : isT o (zb o + 31) := ⟨31, rfl, by unfold sT; decide +kernel⟩
theorem isT_res : isT o (zb o + 906) := ⟨906, rfl, by unfold sT; decide +kernel⟩
theorem isK_told : isK o (zb o + 934) := ⟨934, rfl, by unfold sK; decide +kernel⟩
theorem isK_own : isK o (zb o + 969) := ⟨969, rfl, by unfold sK; decide +kernel⟩
theorem isR_ours : isR o (zb o + 937) := ⟨937, rfl, by unfold sR; decide +kernel⟩
theorem isR_theirs : isR o (zb o + 944) := ⟨944, rfl, by unfold sR; decide +kernel⟩
theorem isR_own : isR o (zb o + 972) := ⟨972, rfl, by unfold sR; decide +kernel⟩
theorem isM_ours : isM o (zb o + 952) := ⟨952, rfl, by unfold sM; decide +kernel⟩
theorem isM_theirs : isM o (zb o + 956) := ⟨956, rfl, by unfold sM; decide +kernel⟩
theorem isM_own : isM o (zb o + 979) := ⟨979, rfl, by unfold sM; decide +kernel⟩
theorem isC_base : isC o (zb o + 960) := ⟨960, rfl, by unfold sC; decide +kernel⟩
theorem isC_our : isC o (zb o + 962) := ⟨962, rfl, by unfold sC; decide +kernel⟩
theorem isC_their : isC o (zb o + 964) := ⟨964, rfl, by unfold sC; decide +kernel⟩
theorem isC_none : isC o (zb o + 966) := ⟨966, rfl, by unfold sC; decide +kernel⟩
end
/-- outside of the n cells from a on nothing has changed -/
def zF (σ σ' : zS) (a n : Nat) : Prop := ∀ q, (q < a ∨ a + n ≤ q) → σ' q = σ q
theorem zF.rf {σ : zS} {a n : Nat} : zF σ σ a n := fun _ _ => rfl
theorem zF.si {σ σ' : zS} {a n b i : Nat} {e : Int} (h : zF σ σ' a n) (hb : a ≤ b ∧ b < a + n) : zF σ (si σ' b i e) a n := fun q hq => (si_ne (by omega)).trans (h q hq)
theorem zF.trans {σ σ' σ2 : zS} {a n b m : Nat} (h : zF σ σ' a n) (f : zF σ' σ2 b m) (h1 : a ≤ b) (h2 : b + m ≤ a + n) : zF σ σ2 a n := fun q hq => (f q (by omega)).trans (h q hq)
theorem zF.mono {σ σ' : zS} {a n b m : Nat} (f : zF σ σ' b m) (h1 : a ≤ b) (h2 : b + m ≤ a + n) : zF σ σ' a n := fun q hq => f q (by omega)

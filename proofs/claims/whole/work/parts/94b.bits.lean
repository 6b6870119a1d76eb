/-! LAYER 2: printed: Long.bitCount (wb_shr is of the kit's texts to paste) -/
theorem wb_shr {n k : Nat} (hn : n < 2 ^ 64) (hk : k < 64) : ((lN n).toUInt64 >>> ((nI k).toInt64.toUInt64 &&& Int64.toUInt64 63)).toInt64 = lN (n / 2 ^ k) := by
  rw [wb_cu k hk]
  apply wb_inj
  apply BitVec.eq_of_toNat_eq
  show ((lN n).toUInt64 >>> UInt64.ofNat k).toNat = (BitVec.ofNat 64 _).toNat
  have h1 : (UInt64.ofNat k).toNat = k := by
    show (BitVec.ofNat 64 k).toNat = k
    rw [BitVec.toNat_ofNat, Nat.mod_eq_of_lt (by omega)]
  have h2 : (lN n).toUInt64.toNat = n := wb_tn hn
  rw [UInt64.toNat_shiftRight, h1, h2, Nat.mod_eq_of_lt hk, Nat.shiftRight_eq_div_pow, BitVec.toNat_ofNat, Nat.mod_eq_of_lt (Nat.lt_of_le_of_lt (Nat.div_le_self _ _) hn)]
theorem fold_b {x y z w : Nat} (hy : y = x + x / 256) (hz : z = y + y / 65536) (hw : w = z + z / 4294967296) (h : w < 2 ^ 64) : x < 2 ^ 64 ∧ y < 2 ^ 64 ∧ z < 2 ^ 64 := by
  have h1 : x ≤ y := by rw [hy]; exact Nat.le_add_right _ _
  have h2 : y ≤ z := by rw [hz]; exact Nat.le_add_right _ _
  have h3 : z ≤ w := by rw [hw]; exact Nat.le_add_right _ _
  exact ⟨Nat.lt_of_le_of_lt (Nat.le_trans (Nat.le_trans h1 h2) h3) h, Nat.lt_of_le_of_lt (Nat.le_trans h2 h3) h, Nat.lt_of_le_of_lt h3 h⟩
theorem md7 (w : Nat) : w % 2 ^ 32 % 2 ^ 7 = w % 128 := by omega
theorem g2_68 : ∀ r, r < 256 → g2 r ≤ 68 := by decide +kernel
theorem g3_le8 : ∀ r, r < 256 → g3 r ≤ 8 := by decide +kernel
theorem g3_8 : ∀ r, r < 256 → g3 r < 256 := by decide +kernel
/-- Long.bitCount counts the bits -/
theorem e_bitCount (x0 : Int64) (M : Mm) : s_J_bitCount x0 M = some (nI (cs (fun i => bit x0 i) 64), M) := by
  obtain ⟨n, hn, rfl⟩ := wb_of x0
  have q64 : (256 : Nat) ^ 8 = 2 ^ 64 := by decide
  have m1 : msk 85 8 = 6148914691236517205 := by decide
  have m2 : msk 51 8 = 3689348814741910323 := by decide
  have m3 : msk 15 8 = 1085102592571150095 := by decide
  obtain ⟨s1, s2⟩ := st1' 8 n (by rw [q64]; exact hn)
  have s3 := st2' 8 n
  have s4 := st3' 8 n
  rw [m1] at s1 s2
  rw [m2] at s3
  rw [m3] at s4
  have l1 := asm_lt g1 (fun r hr => (g1_f r hr).2) 8 n
  have l2 := asm_lt g2 (fun r hr => (g2_f r hr).1) 8 n
  rw [q64] at l1 l2
  have mm : ∀ m, m % 256 < 256 := fun m => Nat.mod_lt _ (by decide)
  have b0 := (g3_f (n % 256) (mm _)).1
  have b1 := (g3_f (n / 256 % 256) (mm _)).1
  have b2 := (g3_f (n / 256 ^ 2 % 256) (mm _)).1
  have b3 := (g3_f (n / 256 ^ 3 % 256) (mm _)).1
  have b4 := (g3_f (n / 256 ^ 4 % 256) (mm _)).1
  have b5 := (g3_f (n / 256 ^ 5 % 256) (mm _)).1
  have b6 := (g3_f (n / 256 ^ 6 % 256) (mm _)).1
  have b7 := (g3_f (n / 256 ^ 7 % 256) (mm _)).1
  obtain ⟨x, hx⟩ : ∃ x, x = asm g3 8 n := ⟨_, rfl⟩
  obtain ⟨y, hy⟩ : ∃ y, y = x + x / 256 := ⟨_, rfl⟩
  obtain ⟨z, hz⟩ : ∃ z, z = y + y / 65536 := ⟨_, rfl⟩
  obtain ⟨w, hw⟩ : ∃ w, w = z + z / 4294967296 := ⟨_, rfl⟩
  have a0 := asm_s g3 7 n 0
  rw [Nat.pow_zero, Nat.div_one] at a0
  have a1 := asm_s g3 6 n 1
  have a2 := asm_s g3 5 n 2
  have a3 := asm_s g3 4 n 3
  have a4 := asm_s g3 3 n 4
  have a5 := asm_s g3 2 n 5
  have a6 : asm g3 2 (n / 256 ^ 6) = g3 (n / 256 ^ 6 % 256) + 256 * g3 (n / 256 ^ 7 % 256) := by
    rw [asm_s g3 1 n 6, asm_s g3 0 n 7]
    rfl
  rw [Nat.pow_one] at a1
  have f1 := fold8 b0 b1 b2 b3 b4 b5 b6 b7 (hx.trans a0) (by rw [show (0 : Nat) + 1 = 1 from rfl, Nat.pow_one]; exact a1) a2 a3 a4 a5 a6 hy hz hw
  have f2 : w < 2 ^ 64 := fold_lt (by
    have := asm_b g3 8 g3_le8 8 n
    rw [show msk 8 8 = 578721382704613384 by decide, ← hx] at this
    exact this) hy hz hw
  obtain ⟨lx, ly, lz⟩ := fold_b hy hz hw f2
  have c64 := cs_64 n
  have ebit : cs (fun i => bit (lN n) i) 64 = cs (fun i => n.testBit i) 64 := cs_cg 64 (fun i hi => by
    unfold bit
    rw [wb_tb, BitVec.getLsbD_ofNat]
    simp [hi])
  rw [ebit, c64, ← f1]
  have dv : ∀ {a b : Nat}, a < 2 ^ 64 → a / b < 2 ^ 64 := fun h => Nat.lt_of_le_of_lt (Nat.div_le_self _ _) h
  have h1 : ((lN n).toUInt64 >>> ((1 : Int32).toInt64.toUInt64 &&& Int64.toUInt64 63)).toInt64 = lN (n / 2) := wb_shr (k := 1) hn (by decide)
  have h2 : lN (n / 2) &&& (6148914691236517205 : Int64) = lN ((n / 2) &&& 6148914691236517205) := wb_and (dv hn) (by decide)
  have h3 : lN n - lN ((n / 2) &&& 6148914691236517205) = lN (asm g1 8 n) := by rw [lN_sub s1, s2]
  have h4 : lN (asm g1 8 n) &&& (3689348814741910323 : Int64) = lN (asm g1 8 n &&& 3689348814741910323) := wb_and l1 (by decide)
  have h5 : ((lN (asm g1 8 n)).toUInt64 >>> ((2 : Int32).toInt64.toUInt64 &&& Int64.toUInt64 63)).toInt64 = lN (asm g1 8 n / 4) := wb_shr (k := 2) l1 (by decide)
  have h6 : lN (asm g1 8 n / 4) &&& (3689348814741910323 : Int64) = lN ((asm g1 8 n / 4) &&& 3689348814741910323) := wb_and (dv l1) (by decide)
  have h7 : lN (asm g1 8 n &&& 3689348814741910323) + lN ((asm g1 8 n / 4) &&& 3689348814741910323) = lN (asm g2 8 n) := by rw [lN_add, s3]
  have h8 : ((lN (asm g2 8 n)).toUInt64 >>> ((4 : Int32).toInt64.toUInt64 &&& Int64.toUInt64 63)).toInt64 = lN (asm g2 8 n / 16) := wb_shr (k := 4) l2 (by decide)
  have h9 : lN (asm g2 8 n) + lN (asm g2 8 n / 16) = lN (asm g2 8 n + asm g2 8 n / 16) := lN_add _ _
  have bd : asm g2 8 n ≤ 4919131752989213764 := by
    have := asm_b g2 68 g2_68 8 n
    rw [show msk 68 8 = 4919131752989213764 by decide] at this
    exact this
  have h10 : lN (asm g2 8 n + asm g2 8 n / 16) &&& (1085102592571150095 : Int64) = lN x := by
    have : lN (asm g2 8 n + asm g2 8 n / 16) &&& lN 1085102592571150095 = lN ((asm g2 8 n + asm g2 8 n / 16) &&& 1085102592571150095) := wb_and (Nat.lt_of_le_of_lt (Nat.add_le_add bd (Nat.le_trans (Nat.div_le_self _ _) bd)) (by decide)) (by decide)
    rw [s4, ← hx] at this
    exact this
  have h11 : ((lN x).toUInt64 >>> ((8 : Int32).toInt64.toUInt64 &&& Int64.toUInt64 63)).toInt64 = lN (x / 256) := wb_shr (k := 8) lx (by decide)
  have h12 : lN x + lN (x / 256) = lN y := by rw [lN_add, hy]
  have h13 : ((lN y).toUInt64 >>> ((16 : Int32).toInt64.toUInt64 &&& Int64.toUInt64 63)).toInt64 = lN (y / 65536) := wb_shr (k := 16) ly (by decide)
  have h14 : lN y + lN (y / 65536) = lN z := by rw [lN_add, hz]
  have h15 : ((lN z).toUInt64 >>> ((32 : Int32).toInt64.toUInt64 &&& Int64.toUInt64 63)).toInt64 = lN (z / 4294967296) := wb_shr (k := 32) lz (by decide)
  have h16 : lN z + lN (z / 4294967296) = lN w := by rw [lN_add, hw]
  have h18 : nI w &&& (127 : Int32) = nI (w % 128) := by
    have e := pk_and (nI w) (m := 127) 7 (by decide)
    have e2 : (nI w).toBitVec.toNat = w % 2 ^ 32 := BitVec.toNat_ofNat w 32
    rw [e, e2, md7]
  simp only [s_J_bitCount, h1, h2, h3, h4, h5, h6, h7, h8, h9, h10, h11, h12, h13, h14, h15, h16, lN_i, h18]

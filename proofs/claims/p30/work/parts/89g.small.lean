/-! the smallest part that can't stand, as both sides reckon it -/
theorem z_n32and (a b : Int32) : (a &&& b).toBitVec.toNat = a.toBitVec.toNat &&& b.toBitVec.toNat := by rw [Int32.toBitVec_and, BitVec.toNat_and]
theorem z_n32or (a b : Int32) : (a ||| b).toBitVec.toNat = a.toBitVec.toNat ||| b.toBitVec.toNat := by rw [Int32.toBitVec_or, BitVec.toNat_or]
theorem z_n32sub (a b : Int32) (h : b.toBitVec.toNat ≤ a.toBitVec.toNat) : (a - b).toBitVec.toNat = a.toBitVec.toNat - b.toBitVec.toNat := by
  have h1 := a.toBitVec.isLt
  have h2 := b.toBitVec.isLt
  rw [Int32.toBitVec_sub, BitVec.toNat_sub]
  omega
theorem z_n32add (a b : Int32) (h : a.toBitVec.toNat + b.toBitVec.toNat < 4294967296) : (a + b).toBitVec.toNat = a.toBitVec.toNat + b.toBitVec.toNat := by
  rw [Int32.toBitVec_add, BitVec.toNat_add]
  exact Nat.mod_eq_of_lt h
theorem z_i63 (e : Int32) : (e &&& 63).toInt = ((e.toBitVec.toNat % 64 : Nat) : Int) := by
  have h0 : (e &&& 63).toBitVec.toNat = e.toBitVec.toNat % 64 := by
    rw [Int32.toBitVec_and, BitVec.toNat_and]
    exact Nat.and_two_pow_sub_one_eq_mod e.toBitVec.toNat 6
  have h2 : (e &&& 63).toInt = ((e &&& 63).toBitVec.toNat : Int) := BitVec.toInt_eq_toNat_of_lt (by rw [h0]; omega)
  rw [h2, h0]
theorem z_cnt4 {C n : Nat} (h : z_dx 4 C n) : ((C + C / 256) + (C + C / 256) / 65536) % 64 = z_pcs 4 n := by
  obtain ⟨C1, e0, h1⟩ : ∃ D, C = z_pc8 (n % 256) + 256 * D ∧ z_dx 3 D (n / 256) := h
  obtain ⟨C2, e1, h2⟩ : ∃ D, C1 = z_pc8 (n / 256 % 256) + 256 * D ∧ z_dx 2 D (n / 256 / 256) := h1
  obtain ⟨C3, e2, h3⟩ : ∃ D, C2 = z_pc8 (n / 256 / 256 % 256) + 256 * D ∧ z_dx 1 D (n / 256 / 256 / 256) := h2
  obtain ⟨C4, e3, h4⟩ : ∃ D, C3 = z_pc8 (n / 256 / 256 / 256 % 256) + 256 * D ∧ z_dx 0 D (n / 256 / 256 / 256 / 256) := h3
  have e4 : C4 = 0 := h4
  have es : z_pcs 4 n = z_pc8 (n % 256) + (z_pc8 (n / 256 % 256) + (z_pc8 (n / 256 / 256 % 256) + (z_pc8 (n / 256 / 256 / 256 % 256) + 0))) := rfl
  rw [es]
  clear h4 es
  have g0 := z_pc8l (n % 256)
  have g1 := z_pc8l (n / 256 % 256)
  have g2 := z_pc8l (n / 256 / 256 % 256)
  have g3 := z_pc8l (n / 256 / 256 / 256 % 256)
  generalize z_pc8 (n % 256) = c0 at *
  generalize z_pc8 (n / 256 % 256) = c1 at *
  generalize z_pc8 (n / 256 / 256 % 256) = c2 at *
  generalize z_pc8 (n / 256 / 256 / 256 % 256) = c3 at *
  obtain ⟨d1, d2⟩ := z_cn1 g0 g1 g2 e0 e1 e2
  rw [d1, d2]
  have d4 : C + C1 + (C2 + C3) = (c0 + c1 + c2 + c3) + 256 * (C1 + C2 + C3 + C4) := by omega
  rw [d4]
  generalize C1 + C2 + C3 + C4 = Y
  clear e0 e1 e2 e3 e4 d1 d2 d4
  omega
theorem z_ct8 (m n : Nat) : z_ct (m + 8) n = z_pc8 (n % 256) + z_ct m (n / 256) := by
  have e : z_ct (m + 8) n = n % 2 + (n / 2 % 2 + (n / 2 / 2 % 2 + (n / 2 / 2 / 2 % 2 + (n / 2 / 2 / 2 / 2 % 2 + (n / 2 / 2 / 2 / 2 / 2 % 2 + (n / 2 / 2 / 2 / 2 / 2 / 2 % 2 + (n / 2 / 2 / 2 / 2 / 2 / 2 / 2 % 2 + z_ct m (n / 2 / 2 / 2 / 2 / 2 / 2 / 2 / 2)))))))) := rfl
  have b1 : n / 2 % 2 = n % 256 / 2 % 2 := by omega
  have b2 : n / 2 / 2 % 2 = n % 256 / 4 % 2 := by omega
  have b3 : n / 2 / 2 / 2 % 2 = n % 256 / 8 % 2 := by omega
  have b4 : n / 2 / 2 / 2 / 2 % 2 = n % 256 / 16 % 2 := by omega
  have b5 : n / 2 / 2 / 2 / 2 / 2 % 2 = n % 256 / 32 % 2 := by omega
  have b6 : n / 2 / 2 / 2 / 2 / 2 / 2 % 2 = n % 256 / 64 % 2 := by omega
  have b7 : n / 2 / 2 / 2 / 2 / 2 / 2 / 2 % 2 = n % 256 / 128 % 2 := by omega
  have b0 : n % 2 = n % 256 % 2 := by omega
  have b8 : n / 2 / 2 / 2 / 2 / 2 / 2 / 2 / 2 = n / 256 := by omega
  rw [e, b8, b7, b6, b5, b4, b3, b2, b1, b0]
  unfold z_pc8
  generalize n % 256 % 2 = c0
  generalize n % 256 / 2 % 2 = c1
  generalize n % 256 / 4 % 2 = c2
  generalize n % 256 / 8 % 2 = c3
  generalize n % 256 / 16 % 2 = c4
  generalize n % 256 / 32 % 2 = c5
  generalize n % 256 / 64 % 2 = c6
  generalize n % 256 / 128 % 2 = c7
  omega
theorem z_pcs_cp (n : Nat) : z_pcs 4 n = z_cp n 32 := by
  have e : z_pcs 4 n = z_pc8 (n % 256) + (z_pc8 (n / 256 % 256) + (z_pc8 (n / 256 / 256 % 256) + (z_pc8 (n / 256 / 256 / 256 % 256) + 0))) := rfl
  have e2 : z_ct 0 (n / 256 / 256 / 256 / 256) = 0 := rfl
  rw [← z_ct_cp, e, z_ct8 24, z_ct8 16, z_ct8 8, z_ct8 0, e2]
theorem zX31 {d : Nat} {K : Option Value → zH → Prop} {p0 : Int32} {M0 : zH} (h0 : 0 ≤ p0.toInt) (kk : ∀ x : Int32, x.toInt = (z_cp p0.toInt.toNat 32 : Int) → K (some (.int x)) M0) : z_ev d 31 0 [some (.int p0)] [] M0 K := by
  have n0 : p0.toBitVec.toNat < 256 ^ 4 := p0.toBitVec.isLt
  have en : p0.toInt.toNat = p0.toBitVec.toNat := by
    have := z_nn h0
    omega
  have k5 : (1431655765 : Int32).toBitVec.toNat = z_kb 85 4 := by decide
  have k3 : (858993459 : Int32).toBitVec.toNat = z_kb 51 4 := by decide
  have kf : (252645135 : Int32).toBitVec.toNat = z_kb 15 4 := by decide
  have b3 : z_kb 51 4 = 858993459 := by decide
  have bf : z_kb 15 4 = 252645135 := by decide
  have q3 := z_cnt4 (z_bitx 4 p0.toBitVec.toNat n0)
  rw [z_pcs_cp] at q3
  refine z_xP zt31 0 3 [some (.int p0)] [.int 1, .int p0, .int p0] rfl rfl ?_
  refine z_xI zt31 1 rfl rfl (fun (a : Int32) (h1 : a.toBitVec.toNat = p0.toBitVec.toNat / 2) => ?_) (z_ushr p0 (k := 1) rfl (by decide))
  refine z_xlw zt31 2 rfl zo31 zki15_265 ?_
  refine z_xI zt31 3 rfl rfl (fun (b : Int32) (h2 : b.toBitVec.toNat = p0.toBitVec.toNat / 2 &&& z_kb 85 4) => ?_) (by rw [z_n32and, h1, k5])
  refine z_xI zt31 4 rfl rfl (fun (A : Int32) (h3 : A.toBitVec.toNat = z_bA 4 p0.toBitVec.toNat) => ?_) (by
    have := @Nat.and_le_left (p0.toBitVec.toNat / 2) (z_kb 85 4)
    rw [z_n32sub _ _ (by omega), h2]; rfl)
  refine z_xP zt31 5 11 [some (.int A)] [.int A] rfl rfl ?_
  refine z_xlw zt31 6 rfl zo31 zki15_266 ?_
  refine z_xI zt31 7 rfl rfl (fun (c : Int32) (h4 : c.toBitVec.toNat = z_bA 4 p0.toBitVec.toNat &&& z_kb 51 4) => ?_) (by rw [z_n32and, h3, k3])
  refine z_xP zt31 8 17 [some (.int A)] [.int 2, .int A, .int c] rfl rfl ?_
  refine z_xI zt31 9 rfl rfl (fun (e : Int32) (h5 : e.toBitVec.toNat = A.toBitVec.toNat / 4) => ?_) (z_ushr A (k := 2) rfl (by decide))
  refine z_xlw zt31 10 rfl zo31 zki15_266 ?_
  refine z_xI zt31 11 rfl rfl (fun (f : Int32) (h6 : f.toBitVec.toNat = z_bA 4 p0.toBitVec.toNat / 4 &&& z_kb 51 4) => ?_) (by rw [z_n32and, h5, h3, k3])
  have l1 := @Nat.and_le_right (z_bA 4 p0.toBitVec.toNat) (z_kb 51 4)
  have l2 := @Nat.and_le_right (z_bA 4 p0.toBitVec.toNat / 4) (z_kb 51 4)
  have hB : z_bB 4 p0.toBitVec.toNat = (z_bA 4 p0.toBitVec.toNat &&& z_kb 51 4) + (z_bA 4 p0.toBitVec.toNat / 4 &&& z_kb 51 4) := rfl
  refine z_xI zt31 12 rfl rfl (fun (B : Int32) (h7 : B.toBitVec.toNat = z_bB 4 p0.toBitVec.toNat) => ?_) (by rw [z_n32add _ _ (by omega), h4, h6, hB])
  refine z_xP zt31 13 27 [some (.int B)] [.int 4, .int B, .int B] rfl rfl ?_
  refine z_xI zt31 14 rfl rfl (fun (g : Int32) (h8 : g.toBitVec.toNat = B.toBitVec.toNat / 16) => ?_) (z_ushr B (k := 4) rfl (by decide))
  refine z_xI zt31 15 rfl rfl (fun (s : Int32) (h9 : s.toBitVec.toNat = z_bB 4 p0.toBitVec.toNat + z_bB 4 p0.toBitVec.toNat / 16) => ?_) (by rw [z_n32add _ _ (by omega), h8, h7])
  refine z_xlw zt31 16 rfl zo31 zki15_267 ?_
  refine z_xI zt31 17 rfl rfl (fun (C : Int32) (h10 : C.toBitVec.toNat = z_bC 4 p0.toBitVec.toNat) => ?_) (by rw [z_n32and, h9, kf]; rfl)
  have l3 : z_bC 4 p0.toBitVec.toNat ≤ z_kb 15 4 := Nat.and_le_right
  generalize z_bC 4 p0.toBitVec.toNat = w at *
  refine z_xP zt31 18 38 [some (.int C)] [.int 8, .int C, .int C] rfl rfl ?_
  refine z_xI zt31 19 rfl rfl (fun (t : Int32) (h11 : t.toBitVec.toNat = C.toBitVec.toNat / 256) => ?_) (z_ushr C (k := 8) rfl (by decide))
  refine z_xI zt31 20 rfl rfl (fun (D : Int32) (h12 : D.toBitVec.toNat = w + w / 256) => ?_) (by rw [z_n32add _ _ (by omega), h11, h10])
  refine z_xP zt31 21 45 [some (.int D)] [.int 16, .int D, .int D] rfl rfl ?_
  refine z_xI zt31 22 rfl rfl (fun (t : Int32) (h13 : t.toBitVec.toNat = D.toBitVec.toNat / 65536) => ?_) (z_ushr D (k := 16) rfl (by decide))
  refine z_xI zt31 23 rfl rfl (fun (E : Int32) (h14 : E.toBitVec.toNat = (w + w / 256) + (w + w / 256) / 65536) => ?_) (by rw [z_n32add _ _ (by omega), h13, h12])
  refine z_xP zt31 24 51 [some (.int E)] [.int 63, .int E] rfl rfl ?_
  refine z_xI zt31 25 rfl rfl (fun (x : Int32) (h15 : x.toInt = ((E.toBitVec.toNat % 64 : Nat) : Int)) => ?_) (z_i63 E)
  exact z_xri zt31 26 rfl zzr31 (kk x (by rw [h15, h14, q3, en]))
section ZSG
variable {B : Nat → Nat} {q i x f f2 : Nat} {p t d e : Int32}
end ZSG
/-- the halves of a part -/
theorem z_pof.lo {b y n : Nat} (h : z_pof b (y + 1024 * n)) (hy : y < 1024) : z_pof (b % 1024) y := fun k a => by
  have hk : k < 10 := z_hi9 (Nat.mod_lt _ (by decide)) a
  have h1 := h k
  rw [z_dbl hk] at h1
  refine h1 ?_
  have e : b = b % 1024 + 1024 * (b / 1024) := by omega
  rw [e, z_dbl hk]
  exact a
theorem z_pof.hi {b y n : Nat} (h : z_pof b (y + 1024 * n)) (hy : y < 1024) : z_pof (b / 1024) n := fun k a => by
  have h1 := h (k + 10)
  rw [z_dbh hy] at h1
  refine h1 ?_
  have e : b = b % 1024 + 1024 * (b / 1024) := by omega
  rw [e, z_dbh (Nat.mod_lt _ (by decide))]
  exact a
/-- the reference's part: p of all told questions -/
def y_V (y n p : Nat) : Nat := 1024 * (p &&& n) + (p &&& y)
section YSF
variable {S : Nat → Int32} {m y n i : Nat} {x f x2 f2 : Int}
end YSF
theorem z_n32a {a b w : Int32} (ha : 0 ≤ a.toInt) (hb : 0 ≤ b.toInt) (hw : w = a &&& b) : w.toInt.toNat = a.toInt.toNat &&& b.toInt.toNat ∧ 0 ≤ w.toInt := by
  have h0 : 0 ≤ w.toInt ∧ w.toInt ≤ a.toInt := by rw [hw]; exact z_pAndL rfl ha
  have h1 := z_nn ha
  have h2 := z_nn hb
  have h3 := z_nn h0.1
  have h4 := z_n32and a b
  rw [← hw] at h4
  rw [show w.toInt.toNat = w.toBitVec.toNat by omega, show a.toInt.toNat = a.toBitVec.toNat by omega, show b.toInt.toNat = b.toBitVec.toNat by omega]
  exact ⟨h4, h0.1⟩
theorem z_n32o {a b w : Int32} (ha : 0 ≤ a.toInt) (hb : 0 ≤ b.toInt) (h0 : 0 ≤ w.toInt) (hw : w = a ||| b) : w.toInt.toNat = a.toInt.toNat ||| b.toInt.toNat := by
  have h1 := z_nn ha
  have h2 := z_nn hb
  have h3 := z_nn h0
  have h4 := z_n32or a b
  rw [← hw] at h4
  rw [show w.toInt.toNat = w.toBitVec.toNat by omega, show a.toInt.toNat = a.toBitVec.toNat by omega, show b.toInt.toNat = b.toBitVec.toNat by omega]
  exact h4
theorem z_ofI {a : Int32} {k : Nat} (h0 : 0 ≤ a.toInt) (h : a.toInt.toNat = k) : a = Int32.ofNat k := z_of32 (by omega) (by have := z_nn h0; omega)
section YSE
variable {B : Nat → Nat} {q m y n p : Nat} {S : Nat → Int32}
theorem y_Vb (hy : y < 1024) : y_V y n p = (p &&& y) + 1024 * (p &&& n) := by
  unfold y_V
  omega
theorem y_Vc (hd : ∀ k, y / 2 ^ k % 2 = 1 → n / 2 ^ k % 2 = 0) (hy : y < 1024) (hn : n < 1024) (hp : z_pof p (y ||| n)) : z_cp (y_V y n p) 32 = z_cp p 31 := by
  have h := @Nat.and_le_right p y
  have h2 := @Nat.and_le_right p n
  have e1 : ∀ i, z_cp p i = z_cp (p &&& y) i + z_cp (p &&& n) i := by
    intro i
    induction i with
    | zero => rfl
    | succ i ih =>
      rw [z_cpS, z_cpS, z_cpS, ih]
      have a1 := z_land_bit p y i
      have a2 := z_land_bit p n i
      have a3 := hp i
      rw [z_lor_bit] at a3
      have a4 := hd i
      have b1 := z_m2c (p / 2 ^ i)
      have b2 := z_m2c ((p &&& y) / 2 ^ i)
      have b3 := z_m2c ((p &&& n) / 2 ^ i)
      generalize p / 2 ^ i % 2 = u1 at *
      generalize (p &&& y) / 2 ^ i % 2 = u2 at *
      generalize (p &&& n) / 2 ^ i % 2 = u3 at *
      generalize y / 2 ^ i % 2 = u4 at *
      generalize n / 2 ^ i % 2 = u5 at *
      rcases b1 with b1 | b1
      · have c2 : u2 = 0 := by
          rcases b2 with b2 | b2
          · exact b2
          · have := (a1.mp b2).1
            omega
        have c3 : u3 = 0 := by
          rcases b3 with b3 | b3
          · exact b3
          · have := (a2.mp b3).1
            omega
        omega
      · rcases a3 b1 with c4 | c4
        · have c2 := a1.mpr ⟨b1, c4⟩
          have c5 := a4 c4
          have c3 : u3 = 0 := by
            rcases b3 with b3 | b3
            · exact b3
            · have := (a2.mp b3).2
              omega
          omega
        · have c3 := a2.mpr ⟨b1, c4⟩
          have c2 : u2 = 0 := by
            rcases b2 with b2 | b2
            · exact b2
            · have := a4 (a1.mp b2).2
              omega
          omega
  have e22 : z_cp (p &&& n) 22 = z_cp (p &&& n) 10 := z_cp_hi (by omega) 12
  have ey : z_cp (p &&& y) 31 = z_cp (p &&& y) 10 := z_cp_hi (by omega) 21
  have en : z_cp (p &&& n) 31 = z_cp (p &&& n) 10 := z_cp_hi (by omega) 21
  have e32 : z_cp ((p &&& y) + 1024 * (p &&& n)) 32 = z_cp (p &&& y) 10 + z_cp (p &&& n) 22 := z_cp_T (by omega) 22
  rw [y_Vb hy, e32, e22, e1 31, ey, en]
end YSE
theorem z_cp_len (v : Nat) : ∀ i, z_cp v i ≤ i
  | 0 => Nat.le_refl _
  | i + 1 => by
    have h := z_cp_len v i
    have h2 : v / 2 ^ i % 2 < 2 := Nat.mod_lt _ (by decide)
    rw [z_cpS]
    omega
theorem z_cpI {a b w : Int32} {v i i2 : Nat} (h : a.toInt = ((z_cp v i : Nat) : Int)) (hw : w.toInt = ((v / 2 ^ i % 2 : Nat) : Int)) (hb : b.toInt = a.toInt + w.toInt) (hi : i2 = i + 1) : b.toInt = ((z_cp v i2 : Nat) : Int) := by
  rw [hi, z_cpS]
  generalize z_cp v i = A at *
  generalize v / 2 ^ i % 2 = C at *
  omega
theorem zUC31 {T : List zK} {d : Nat} {K : Option Value → zH → Prop} {p0 : Int32} {M0 : zH} (hW : z_W M0 T) (hp0 : 0 ≤ p0.toInt) (kk : ∀ (x : Int32) (M1 : zH), z_X T zw31 M0 M1 → 0 ≤ x.toInt → x.toInt ≤ 63 → x.toInt = ((z_cp p0.toInt.toNat 32 : Nat) : Int) → K (some (.int x)) M1) : z_ev d 31 0 [some (.int p0)] [] M0 K := zX31 hp0 fun x h => kk x M0 (.refl hW) (by omega) (by have := z_cp_len p0.toInt.toNat 32; omega) h
section YSI
variable {S : Nat → Int32} {m i : Nat} {y n p w1 w2 v : Int32} {x f : Int}
end YSI

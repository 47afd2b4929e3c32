/-! bitCount, exactly -/
def z_pc8 (b : Nat) : Nat := b % 2 + b / 2 % 2 + b / 4 % 2 + b / 8 % 2 + b / 16 % 2 + b / 32 % 2 + b / 64 % 2 + b / 128 % 2
theorem z_eig {a b c d e f g h : Nat} (ha : a < 2) (hb : b < 2) (hc : c < 2) (hd : d < 2) (he : e < 2) (hf : f < 2) (hg : g < 2) (hh : h < 2) : a + b + c + d + e + f + g + h ≤ 8 := by omega
theorem z_pc8l (b : Nat) : z_pc8 b ≤ 8 := z_eig (z_m2l _) (z_m2l _) (z_m2l _) (z_m2l _) (z_m2l _) (z_m2l _) (z_m2l _) (z_m2l _)
theorem z_pc8z : ∀ b, b < 256 → z_pc8 b = 0 → b = 0 := by decide +kernel
theorem z_pc80 {b : Nat} (h : b < 256) (h0 : z_pc8 b = 0) : b = 0 := z_pc8z b h h0
def z_pcs : Nat → Nat → Nat
  | 0, _ => 0
  | k + 1, n => z_pc8 (n % 256) + z_pcs k (n / 256)
def z_dx : Nat → Nat → Nat → Prop
  | 0, C, _ => C = 0
  | k + 1, C, n => ∃ C1, C = z_pc8 (n % 256) + 256 * C1 ∧ z_dx k C1 (n / 256)
theorem z_b4x : ∀ b : Nat, b < 256 → ∀ e : Nat, e < 7 → (((b - (b / 2 &&& 85) &&& 51) + ((b - (b / 2 &&& 85)) / 4 &&& 51)) + ((b - (b / 2 &&& 85) &&& 51) + ((b - (b / 2 &&& 85)) / 4 &&& 51)) / 16 + 16 * e) &&& 15 = z_pc8 b := by decide +kernel
theorem z_bitx : ∀ (k n : Nat), n < 256 ^ k → z_dx k (z_bC k n) n
  | 0, n, h => by
    have : n = 0 := by have : n < 1 := h; omega
    subst this
    exact rfl
  | k + 1, n, h => by
    have hn : n / 256 < 256 ^ k := Nat.div_lt_of_lt_mul (by rw [Nat.pow_succ, Nat.mul_comm] at h; exact h)
    have i2 := (z_bits k (n / 256) hn).2
    have i1 := z_bitx k (n / 256) hn
    have hb : n % 256 < 256 := Nat.mod_lt _ (by decide)
    show ∃ C1, z_bC (k + 1) n = z_pc8 (n % 256) + 256 * C1 ∧ z_dx k C1 (n / 256)
    generalize hbe : n % 256 = b at *
    generalize hne : n / 256 = n1 at *
    have e0 : n = b + 256 * n1 := by omega
    have eA : z_bA (k + 1) n = (b - (b / 2 &&& 85)) + 256 * z_bA k n1 := by
      have e1 : n / 2 = (b / 2 + 128 * (n1 % 2)) + 256 * (n1 / 2) := by omega
      have l1 : b / 2 &&& 85 ≤ b / 2 := Nat.and_le_left
      have l2 : n1 / 2 &&& z_kb 85 k ≤ n1 / 2 := Nat.and_le_left
      unfold z_bA
      rw [show z_kb 85 (k + 1) = 85 + 256 * z_kb 85 k from rfl, e1, z_andb (by omega) (by decide), z_b1 b hb _ (Nat.mod_lt _ (by decide))]
      omega
    have hal : b - (b / 2 &&& 85) < 256 := by omega
    generalize hA1 : z_bA k n1 = A1 at *
    have eB : z_bB (k + 1) n = ((b - (b / 2 &&& 85) &&& 51) + ((b - (b / 2 &&& 85)) / 4 &&& 51)) + 256 * z_bB k n1 := by
      unfold z_bB
      rw [eA, hA1]
      have e1 : (b - (b / 2 &&& 85) + 256 * A1) / 4 = ((b - (b / 2 &&& 85)) / 4 + 64 * (A1 % 4)) + 256 * (A1 / 4) := by omega
      rw [show z_kb 51 (k + 1) = 51 + 256 * z_kb 51 k from rfl, e1, z_andb hal (by decide), z_andb (by omega) (by decide), z_b2 _ hal _ (Nat.mod_lt _ (by decide))]
      omega
    obtain ⟨t1, t2⟩ := z_b3 b hb
    have t3 := z_b4x b hb (z_bB k n1 % 16) (by omega)
    generalize hbb : ((b - (b / 2 &&& 85) &&& 51) + ((b - (b / 2 &&& 85)) / 4 &&& 51)) = β at *
    refine ⟨z_bC k n1, ?_, i1⟩
    rw [← t3]
    unfold z_bC
    rw [eB]
    generalize z_bB k n1 = B1 at *
    have e1 : β + 256 * B1 + (β + 256 * B1) / 16 = (β + β / 16 + 16 * (B1 % 16)) + 256 * (B1 + B1 / 16) := by omega
    rw [show z_kb 15 (k + 1) = 15 + 256 * z_kb 15 k from rfl, e1, z_andb (by omega) (by decide)]
theorem z_cntx {C n : Nat} (h : z_dx 8 C n) : (((C + C / 256) + (C + C / 256) / 65536) + ((C + C / 256) + (C + C / 256) / 65536) / 4294967296) % 128 = z_pcs 8 n := by
  obtain ⟨C1, e0, h1⟩ : ∃ D, C = z_pc8 (n % 256) + 256 * D ∧ z_dx 7 D (n / 256) := h
  obtain ⟨C2, e1, h2⟩ : ∃ D, C1 = z_pc8 (n / 256 % 256) + 256 * D ∧ z_dx 6 D (n / 256 / 256) := h1
  obtain ⟨C3, e2, h3⟩ : ∃ D, C2 = z_pc8 (n / 256 / 256 % 256) + 256 * D ∧ z_dx 5 D (n / 256 / 256 / 256) := h2
  obtain ⟨C4, e3, h4⟩ : ∃ D, C3 = z_pc8 (n / 256 / 256 / 256 % 256) + 256 * D ∧ z_dx 4 D (n / 256 / 256 / 256 / 256) := h3
  obtain ⟨C5, e4, h5⟩ : ∃ D, C4 = z_pc8 (n / 256 / 256 / 256 / 256 % 256) + 256 * D ∧ z_dx 3 D (n / 256 / 256 / 256 / 256 / 256) := h4
  obtain ⟨C6, e5, h6⟩ : ∃ D, C5 = z_pc8 (n / 256 / 256 / 256 / 256 / 256 % 256) + 256 * D ∧ z_dx 2 D (n / 256 / 256 / 256 / 256 / 256 / 256) := h5
  obtain ⟨C7, e6, h7⟩ : ∃ D, C6 = z_pc8 (n / 256 / 256 / 256 / 256 / 256 / 256 % 256) + 256 * D ∧ z_dx 1 D (n / 256 / 256 / 256 / 256 / 256 / 256 / 256) := h6
  obtain ⟨C8, e7, h8⟩ : ∃ D, C7 = z_pc8 (n / 256 / 256 / 256 / 256 / 256 / 256 / 256 % 256) + 256 * D ∧ z_dx 0 D (n / 256 / 256 / 256 / 256 / 256 / 256 / 256 / 256) := h7
  have e8 : C8 = 0 := h8
  have es : z_pcs 8 n = z_pc8 (n % 256) + (z_pc8 (n / 256 % 256) + (z_pc8 (n / 256 / 256 % 256) + (z_pc8 (n / 256 / 256 / 256 % 256) + (z_pc8 (n / 256 / 256 / 256 / 256 % 256) + (z_pc8 (n / 256 / 256 / 256 / 256 / 256 % 256) + (z_pc8 (n / 256 / 256 / 256 / 256 / 256 / 256 % 256) + (z_pc8 (n / 256 / 256 / 256 / 256 / 256 / 256 / 256 % 256) + 0))))))) := rfl
  rw [es]
  clear h8 es
  generalize hc0 : z_pc8 (n % 256) = c0 at *
  generalize hc1 : z_pc8 (n / 256 % 256) = c1 at *
  generalize hc2 : z_pc8 (n / 256 / 256 % 256) = c2 at *
  generalize hc3 : z_pc8 (n / 256 / 256 / 256 % 256) = c3 at *
  generalize hc4 : z_pc8 (n / 256 / 256 / 256 / 256 % 256) = c4 at *
  generalize hc5 : z_pc8 (n / 256 / 256 / 256 / 256 / 256 % 256) = c5 at *
  generalize hc6 : z_pc8 (n / 256 / 256 / 256 / 256 / 256 / 256 % 256) = c6 at *
  generalize hc7 : z_pc8 (n / 256 / 256 / 256 / 256 / 256 / 256 / 256 % 256) = c7 at *
  have g0 : c0 ≤ 8 := hc0 ▸ z_pc8l _
  have g1 : c1 ≤ 8 := hc1 ▸ z_pc8l _
  have g2 : c2 ≤ 8 := hc2 ▸ z_pc8l _
  have g3 : c3 ≤ 8 := hc3 ▸ z_pc8l _
  have g4 : c4 ≤ 8 := hc4 ▸ z_pc8l _
  have g5 : c5 ≤ 8 := hc5 ▸ z_pc8l _
  have g6 : c6 ≤ 8 := hc6 ▸ z_pc8l _
  have g7 : c7 ≤ 8 := hc7 ▸ z_pc8l _
  clear hc0 hc1 hc2 hc3 hc4 hc5 hc6 hc7
  obtain ⟨d1, d2⟩ := z_cn1 g0 g1 g2 e0 e1 e2
  rw [d1, d2, z_cn3 g0 g1 g2 g3 g4 g5 g6 e0 e1 e2 e3 e4 e5 e6]
  clear d1 d2
  have d4 : C + C1 + (C2 + C3) + (C4 + C5 + C6 + C7) = (c0 + c1 + c2 + c3 + c4 + c5 + c6 + c7) + 256 * (C1 + C2 + C3 + C4 + C5 + C6 + C7 + C8) := by omega
  rw [d4]
  generalize C1 + C2 + C3 + C4 + C5 + C6 + C7 + C8 = Y
  clear e0 e1 e2 e3 e4 e5 e6 e7 d4
  omega
theorem z_pcs0 : ∀ (k n : Nat), n < 256 ^ k → z_pcs k n = 0 → n = 0
  | 0, n, h, _ => by have : n < 1 := h; omega
  | k + 1, n, h, h0 => by
    have hn : n / 256 < 256 ^ k := Nat.div_lt_of_lt_mul (by rw [Nat.pow_succ, Nat.mul_comm] at h; exact h)
    have e : z_pcs (k + 1) n = z_pc8 (n % 256) + z_pcs k (n / 256) := rfl
    have h1 := z_pc80 (b := n % 256) (Nat.mod_lt _ (by decide)) (by omega)
    have h2 := z_pcs0 k (n / 256) hn (by omega)
    omega
theorem z_pcsz : ∀ k, z_pcs k 0 = 0
  | 0 => rfl
  | k + 1 => by
    have e : z_pcs (k + 1) 0 = z_pc8 (0 % 256) + z_pcs k (0 / 256) := rfl
    rw [e, Nat.zero_div, z_pcsz k]
    rfl
theorem z_pcsl : ∀ k n, z_pcs k n ≤ 8 * k
  | 0, _ => Nat.le_refl _
  | k + 1, n => by
    have e : z_pcs (k + 1) n = z_pc8 (n % 256) + z_pcs k (n / 256) := rfl
    have h1 := z_pc8l (n % 256)
    have h2 := z_pcsl k (n / 256)
    omega
theorem zX25 {d : Nat} {K : Option Value → zH → Prop} {p0 : Int64} {M0 : zH} (kk : ∀ x : Int32, x.toInt = (z_pcs 8 (z_un p0) : Int) → K (some (.int x)) M0) : z_ev d 25 0 [some (.long p0), none] [] M0 K := by
  have n0 := z_unlt p0
  have k5 : z_un 6148914691236517205 = z_kb 85 8 := by decide
  have k3 : z_un 3689348814741910323 = z_kb 51 8 := by decide
  have kf : z_un 1085102592571150095 = z_kb 15 8 := by decide
  have b3 : z_kb 51 8 = 3689348814741910323 := by decide
  obtain ⟨hdg, -⟩ := z_bits 8 (z_un p0) n0
  obtain ⟨q1, q2⟩ := z_cnt hdg
  have q3 := z_cntx (z_bitx 8 (z_un p0) n0)
  refine z_xP zt25 0 3 [some (.long p0), none] [.int 1, .long p0, .long p0] rfl rfl ?_
  refine z_xL zt25 1 rfl rfl (fun (a : Int64) (h3 : z_un a = z_un p0 / 2) => ?_) (z_unshr p0 rfl (by decide))
  refine z_xl2 zt25 2 rfl zo25 zkl16_314 ?_
  refine z_xL zt25 3 rfl rfl (fun (b : Int64) (h7 : z_un b = z_un p0 / 2 &&& z_kb 85 8) => ?_) (by rw [z_unand, h3, k5])
  refine z_xL zt25 4 rfl rfl (fun (A : Int64) (h8 : z_un A = z_bA 8 (z_un p0)) => ?_) (by
    have := @Nat.and_le_left (z_un p0 / 2) (z_kb 85 8)
    rw [z_unsub _ _ (by omega), h7]; rfl)
  refine z_xP zt25 5 11 [some (.long A), none] [.long A] rfl rfl ?_
  refine z_xl2 zt25 6 rfl zo25 zkl16_316 ?_
  refine z_xL zt25 7 rfl rfl (fun (c : Int64) (h14 : z_un c = z_bA 8 (z_un p0) &&& z_kb 51 8) => ?_) (by rw [z_unand, h8, k3])
  refine z_xP zt25 8 17 [some (.long A), none] [.int 2, .long A, .long c] rfl rfl ?_
  refine z_xL zt25 9 rfl rfl (fun (e : Int64) (h17 : z_un e = z_un A / 4) => ?_) (z_unshr A rfl (by decide))
  refine z_xl2 zt25 10 rfl zo25 zkl16_316 ?_
  refine z_xL zt25 11 rfl rfl (fun (f : Int64) (h21 : z_un f = z_bA 8 (z_un p0) / 4 &&& z_kb 51 8) => ?_) (by rw [z_unand, h17, h8, k3])
  have l1 := @Nat.and_le_right (z_bA 8 (z_un p0)) (z_kb 51 8)
  have l2 := @Nat.and_le_right (z_bA 8 (z_un p0) / 4) (z_kb 51 8)
  have hB : z_bB 8 (z_un p0) = (z_bA 8 (z_un p0) &&& z_kb 51 8) + (z_bA 8 (z_un p0) / 4 &&& z_kb 51 8) := rfl
  refine z_xL zt25 12 rfl rfl (fun (B : Int64) (h22 : z_un B = z_bB 8 (z_un p0)) => ?_) (by rw [z_unadd, h14, h21, hB]; omega)
  refine z_xP zt25 13 27 [some (.long B), none] [.int 4, .long B, .long B] rfl rfl ?_
  refine z_xL zt25 14 rfl rfl (fun (g : Int64) (h27 : z_un g = z_un B / 16) => ?_) (z_unshr B rfl (by decide))
  refine z_xL zt25 15 rfl rfl (fun (s : Int64) (h28 : z_un s = z_bB 8 (z_un p0) + z_bB 8 (z_un p0) / 16) => ?_) (by rw [z_unadd, h27, h22]; omega)
  refine z_xl2 zt25 16 rfl zo25 zkl16_318 ?_
  refine z_xL zt25 17 rfl rfl (fun (C : Int64) (h32 : z_un C = z_bC 8 (z_un p0)) => ?_) (by rw [z_unand, h28, kf]; rfl)
  generalize hR : z_pcs 8 (z_un p0) = R at *
  generalize z_bC 8 (z_un p0) = n at *
  refine z_xP zt25 18 38 [some (.long C), none] [.int 8, .long C, .long C] rfl rfl ?_
  refine z_xL zt25 19 rfl rfl (fun (t : Int64) (h38 : z_un t = z_un C / 256) => ?_) (z_unshr C rfl (by decide))
  refine z_xL zt25 20 rfl rfl (fun (D : Int64) (h39 : z_un D = n + n / 256) => ?_) (by rw [z_unadd, h38, h32]; omega)
  refine z_xP zt25 21 45 [some (.long D), none] [.int 16, .long D, .long D] rfl rfl ?_
  refine z_xL zt25 22 rfl rfl (fun (t : Int64) (h45 : z_un t = z_un D / 65536) => ?_) (z_unshr D rfl (by decide))
  refine z_xL zt25 23 rfl rfl (fun (E : Int64) (h46 : z_un E = (n + n / 256) + (n + n / 256) / 65536) => ?_) (by rw [z_unadd, h45, h39]; omega)
  refine z_xP zt25 24 52 [some (.long E), none] [.int 32, .long E, .long E] rfl rfl ?_
  refine z_xL zt25 25 rfl rfl (fun (t : Int64) (h52 : z_un t = z_un E / 4294967296) => ?_) (z_unshr E rfl (by decide))
  refine z_xL zt25 26 rfl rfl (fun (F : Int64) (h53 : z_un F = ((n + n / 256) + (n + n / 256) / 65536) + ((n + n / 256) + (n + n / 256) / 65536) / 4294967296) => ?_) (by rw [z_unadd, h52, h46]; omega)
  refine z_xP zt25 27 56 [some (.long F), none] [.long F] rfl rfl ?_
  refine z_xI zt25 28 rfl rfl (fun (w : Int32) (hw : w = F.toInt32) => ?_) rfl
  subst hw
  refine z_xP zt25 29 59 [some (.long F), none] [.int 127, .int F.toInt32] rfl rfl ?_
  refine z_xI zt25 30 rfl rfl (fun (x : Int32) (hx : x.toInt = z_un F % 128) => ?_) (z_unl2i F)
  exact z_xri zt25 31 rfl zzr25 (kk x (by have q4 := q3; rw [← h53] at q4; omega))

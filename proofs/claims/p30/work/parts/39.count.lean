/-! bitCount, with its bound -/
theorem zU25 {d : Nat} {K : Option Value → zH → Prop} {p0 : Int64} {M0 : zH} (kk : ∀ x : Int32, 0 ≤ x.toInt → x.toInt ≤ 64 → K (some (.int x)) M0) : z_ev d 25 0 [some (.long p0), none] [] M0 K := by
  have n0 := z_unlt p0
  have k5 : z_un 6148914691236517205 = z_kb 85 8 := by decide
  have k3 : z_un 3689348814741910323 = z_kb 51 8 := by decide
  have kf : z_un 1085102592571150095 = z_kb 15 8 := by decide
  have b3 : z_kb 51 8 = 3689348814741910323 := by decide
  obtain ⟨hdg, -⟩ := z_bits 8 (z_un p0) n0
  obtain ⟨q1, q2⟩ := z_cnt hdg
  refine z_xP zt25 0 3 [some (.long p0), none] [.int 1, .long p0, .long p0] rfl rfl ?_
  refine z_xL zt25 1 rfl rfl (fun (a : Int64) (h3 : z_un a = z_un p0 / 2) => ?_) (z_unshr p0 rfl (by decide))
  refine z_xl2 zt25 2 rfl zo25 zkl16_314 ?_
  refine z_xL zt25 3 rfl rfl (fun (b : Int64) (h7 : z_un b = z_un p0 / 2 &&& z_kb 85 8) => ?_) (by rw [z_unand, h3, k5])
  refine z_xL zt25 4 rfl rfl (fun (A : Int64) (h8 : z_un A = z_bA 8 (z_un p0)) => ?_) (by
    have := @Nat.and_le_left (z_un p0 / 2) (z_kb 85 8)
    rw [z_unsub _ _ (by omega), h7]; rfl)
  refine z_xP zt25 5 11 [some (.long A), none] [.long A] rfl rfl ?_
  refine z_xl2 zt25 6 rfl zo25 zkl16_316 ?_
  refine z_xL zt25 7 rfl rfl (fun (c : Int64) (h14 : z_un c = z_bA 8 (z_un p0) &&& z_kb 51 8) => ?_) (by rw [z_unand, h8, k3])
  refine z_xP zt25 8 17 [some (.long A), none] [.int 2, .long A, .long c] rfl rfl ?_
  refine z_xL zt25 9 rfl rfl (fun (e : Int64) (h17 : z_un e = z_un A / 4) => ?_) (z_unshr A rfl (by decide))
  refine z_xl2 zt25 10 rfl zo25 zkl16_316 ?_
  refine z_xL zt25 11 rfl rfl (fun (f : Int64) (h21 : z_un f = z_bA 8 (z_un p0) / 4 &&& z_kb 51 8) => ?_) (by rw [z_unand, h17, h8, k3])
  have l1 := @Nat.and_le_right (z_bA 8 (z_un p0)) (z_kb 51 8)
  have l2 := @Nat.and_le_right (z_bA 8 (z_un p0) / 4) (z_kb 51 8)
  have hB : z_bB 8 (z_un p0) = (z_bA 8 (z_un p0) &&& z_kb 51 8) + (z_bA 8 (z_un p0) / 4 &&& z_kb 51 8) := rfl
  refine z_xL zt25 12 rfl rfl (fun (B : Int64) (h22 : z_un B = z_bB 8 (z_un p0)) => ?_) (by rw [z_unadd, h14, h21, hB]; omega)
  refine z_xP zt25 13 27 [some (.long B), none] [.int 4, .long B, .long B] rfl rfl ?_
  refine z_xL zt25 14 rfl rfl (fun (g : Int64) (h27 : z_un g = z_un B / 16) => ?_) (z_unshr B rfl (by decide))
  refine z_xL zt25 15 rfl rfl (fun (s : Int64) (h28 : z_un s = z_bB 8 (z_un p0) + z_bB 8 (z_un p0) / 16) => ?_) (by rw [z_unadd, h27, h22]; omega)
  refine z_xl2 zt25 16 rfl zo25 zkl16_318 ?_
  refine z_xL zt25 17 rfl rfl (fun (C : Int64) (h32 : z_un C = z_bC 8 (z_un p0)) => ?_) (by rw [z_unand, h28, kf]; rfl)
  generalize z_bC 8 (z_un p0) = n at *
  refine z_xP zt25 18 38 [some (.long C), none] [.int 8, .long C, .long C] rfl rfl ?_
  refine z_xL zt25 19 rfl rfl (fun (t : Int64) (h38 : z_un t = z_un C / 256) => ?_) (z_unshr C rfl (by decide))
  refine z_xL zt25 20 rfl rfl (fun (D : Int64) (h39 : z_un D = n + n / 256) => ?_) (by rw [z_unadd, h38, h32]; omega)
  refine z_xP zt25 21 45 [some (.long D), none] [.int 16, .long D, .long D] rfl rfl ?_
  refine z_xL zt25 22 rfl rfl (fun (t : Int64) (h45 : z_un t = z_un D / 65536) => ?_) (z_unshr D rfl (by decide))
  refine z_xL zt25 23 rfl rfl (fun (E : Int64) (h46 : z_un E = (n + n / 256) + (n + n / 256) / 65536) => ?_) (by rw [z_unadd, h45, h39]; omega)
  refine z_xP zt25 24 52 [some (.long E), none] [.int 32, .long E, .long E] rfl rfl ?_
  refine z_xL zt25 25 rfl rfl (fun (t : Int64) (h52 : z_un t = z_un E / 4294967296) => ?_) (z_unshr E rfl (by decide))
  refine z_xL zt25 26 rfl rfl (fun (F : Int64) (h53 : z_un F = ((n + n / 256) + (n + n / 256) / 65536) + ((n + n / 256) + (n + n / 256) / 65536) / 4294967296) => ?_) (by rw [z_unadd, h52, h46]; omega)
  refine z_xP zt25 27 56 [some (.long F), none] [.long F] rfl rfl ?_
  refine z_xI zt25 28 rfl rfl (fun (w : Int32) (hw : w = F.toInt32) => ?_) rfl
  subst hw
  refine z_xP zt25 29 59 [some (.long F), none] [.int 127, .int F.toInt32] rfl rfl ?_
  refine z_xI zt25 30 rfl rfl (fun (x : Int32) (hx : x.toInt = z_un F % 128) => ?_) (z_unl2i F)
  exact z_xri zt25 31 rfl zzr25 (kk x (by omega) (by rw [hx, h53]; omega))

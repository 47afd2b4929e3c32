/-! why of both sides -/
theorem zUB207 {T : List zK} {d : Nat} {K : Option Value → zH → Prop} {p0 : Int32} {M0 : zH} (hp0 : 0 ≤ p0.toInt) (kk : ∀ (x : Int32) (M1 : zH), z_X T zw207 M0 M1 → x.toInt = ((z_cp p0.toInt.toNat 31 : Nat) : Int) → K (some (.int x)) M1) : ∀ n : Nat, (∀ (M : zH) (b1 : Int32) (b2 : Int32), z_X T zw207 M0 M → 0 ≤ b2.toInt ∧ b2.toInt ≤ 31 → 0 ≤ b1.toInt ∧ b1.toInt ≤ b2.toInt → b1.toInt = ((z_cp p0.toInt.toNat b2.toInt.toNat : Nat) : Int) → ((0) * 2 + 0) * 32 + (31 - b2.toInt) < (n : Int) → z_ev d 207 4 [some (.int p0), some (.int b1), some (.int b2)] [] M K) := by
  intro n
  induction n with
  | zero => exact by intros; exfalso; omega
  | succ n ih =>
    intro M b1 b2 X hh0 hh1 hI hE
    refine z_xP zt207 1 7 [some (.int p0), some (.int b1), some (.int b2)] [.int 31, .int b2] rfl rfl ?_
    refine z_xJ zt207 2 rfl rfl (fun (h1 : 31 ≤ b2.toInt) => ?_) (fun (h1 : b2.toInt < 31) => ?_)
    · skip
      refine z_xP zt207 11 25 [some (.int p0), some (.int b1), some (.int b2)] [.int b1] rfl rfl ?_
      have i2 : b2.toInt.toNat = 31 := by omega
      exact z_xri zt207 12 rfl zzr207 (kk b1 M X (by rw [i2] at hI; exact hI))
    refine z_xP zt207 3 13 [some (.int p0), some (.int b1), some (.int b2)] [.int b2, .int p0, .int b1] rfl rfl ?_
    have h3 := z_b32 p0
    refine z_xI zt207 4 rfl rfl (fun (x4 : Int32) (h5 : x4 = p0 >>> (b2 &&& 31)) => ?_) (rfl)
    refine z_xP zt207 5 15 [some (.int p0), some (.int b1), some (.int b2)] [.int 1, .int x4, .int b1] rfl rfl ?_
    refine z_xI zt207 6 rfl rfl (fun (x6 : Int32) (h7 : x6 = x4 &&& (1 : Int32) ∧ 0 ≤ x6.toInt ∧ x6.toInt ≤ 1) => ?_) (⟨rfl, z_pAnd rfl (by omega)⟩)
    have h8 := z_b32 b1
    refine z_xI zt207 7 rfl rfl (fun (x9 : Int32) (h10 : x9.toInt = b1.toInt + x6.toInt) => ?_) (z_pAdd rfl rfl (by omega) (by omega))
    refine z_xP zt207 8 18 [some (.int p0), some (.int x9), some (.int b2)] [] rfl rfl ?_
    refine z_xN zt207 9 rfl rfl (fun (x11 : Int32) (h12 : x11.toInt = b2.toInt + 1) => ?_) (z_pAdd rfl rfl (by omega) (by omega))
    show z_ev d 207 21 [some (.int p0), some (.int x9), some (.int x11)] [] M _
    refine z_xP zt207 10 4 [some (.int p0), some (.int x9), some (.int x11)] [] rfl rfl ?_
    exact ih M x9 x11 X ⟨by omega, by omega⟩ (by omega) (z_cpI hI (z_sbit h5 h7.1 hp0 ⟨by omega, by omega⟩) h10 (by omega)) (by omega)
theorem zUC207 {T : List zK} {d : Nat} {K : Option Value → zH → Prop} {p0 : Int32} {M0 : zH} (hW : z_W M0 T) (hp0 : 0 ≤ p0.toInt) (kk : ∀ (x : Int32) (M1 : zH), z_X T zw207 M0 M1 → x.toInt = ((z_cp p0.toInt.toNat 31 : Nat) : Int) → K (some (.int x)) M1) : z_ev d 207 0 [some (.int p0), none, none] [] M0 K := by
  have X : z_X T zw207 M0 M0 := .refl hW
  refine z_xP zt207 0 4 [some (.int p0), some (.int 0), some (.int 0)] [] rfl rfl ?_
  have q0 : ((0 : Int32)).toInt = 0 := rfl
  exact (zUB207 hp0 kk 64) M0 (0) (0) X (by decide) (by omega) rfl (by omega)

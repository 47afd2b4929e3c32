/-! the calls that leave ways and shelves as they are -/
theorem zJA0 : z_P0 z_JA := by
  intro x1 x2 M ⟨T, hA, hR⟩
  refine z_JA.two (r1 := zw3) (r2 := zw188) (C := fun _ _ => True) hA hR rfl rfl ?_
  rw [zzm3]
  show z_ev 2046 3 0 [some (.ref 4), some (.int x1), some (.int x2)] [] M _
  refine zC3 hA.1.1  fun y M1 X1 _ _ => ?_
  have hB := z_kee hA X1 (by decide)
  refine ⟨⟨y, rfl⟩, X1, ?_⟩
  rw [zzm188]
  show z_ev 2046 188 0 [some (.ref 19), some (.int x1), some (.int x2), none] [] M1 _
  refine zC188 hB.1.1  fun z M2 X2 _ _ => ?_
  exact ⟨⟨z, rfl⟩, trivial, X2⟩
theorem zJA2 : z_P2 z_JA := by
  intro x1 x2 M ⟨T, hA, hR⟩
  refine z_JA.two (r1 := zw34) (r2 := zw208) (C := fun _ _ => True) hA hR rfl rfl ?_
  rw [zzm34]
  show z_ev 2046 34 0 [some (.ref 4), some (.int x1), some (.int x2), none] [] M _
  refine zC34 hA.1.1 hA.1 fun y M1 X1  => ?_
  have hB := z_kee hA X1 (by decide)
  refine ⟨⟨y, rfl⟩, X1, ?_⟩
  rw [zzm208]
  show z_ev 2046 208 0 [some (.ref 19), some (.int x1), some (.int x2)] [] M1 _
  refine zC208 hB.1.1  fun z M2 X2  => ?_
  exact ⟨⟨z, rfl⟩, trivial, X2⟩
theorem zJA3 : z_P3 z_JA := by
  intro x1 x2 M ⟨T, hA, hR⟩
  refine z_JA.two (r1 := zw36) (r2 := zw210) (C := fun _ _ => True) hA hR rfl rfl ?_
  rw [zzm36]
  show z_ev 2046 36 0 [some (.ref 4), some (.int x1), some (.int x2), none] [] M _
  refine zC36 hA.1.1 hA.1 fun y M1 X1 _ _ => ?_
  have hB := z_kee hA X1 (by decide)
  refine ⟨⟨y, rfl⟩, X1, ?_⟩
  rw [zzm210]
  show z_ev 2046 210 0 [some (.ref 19), some (.int x1), some (.int x2)] [] M1 _
  refine zC210 hB.1.1  fun z M2 X2 _ _ => ?_
  exact ⟨⟨z, rfl⟩, trivial, X2⟩
theorem zJA4 : z_P4 z_JA := by
  intro x1 x2 M ⟨T, hA, hR⟩
  refine z_JA.two (r1 := zw38) (r2 := zw211) (C := fun _ _ => True) hA hR rfl rfl ?_
  rw [zzm38]
  show z_ev 2046 38 0 [some (.ref 4), some (.int x1), some (.int x2), none] [] M _
  refine zC38 hA.1.1 hA.1 fun y M1 X1 _ _ => ?_
  have hB := z_kee hA X1 (by decide)
  refine ⟨⟨y, rfl⟩, X1, ?_⟩
  rw [zzm211]
  show z_ev 2046 211 0 [some (.ref 19), some (.int x1), some (.int x2)] [] M1 _
  refine zC211 hB.1.1  fun z M2 X2  => ?_
  exact ⟨⟨z, rfl⟩, trivial, X2⟩
theorem zJA5 : z_P5 z_JA := by
  intro x1 x2 x3 M ⟨T, hA, hR⟩
  refine z_JA.two (r1 := zw42) (r2 := zw213) (C := fun _ _ => True) hA hR rfl rfl ?_
  rw [zzm42]
  show z_ev 2046 42 0 [some (.ref 4), some (.int x1), some (.int x2), some (.int x3), none] [] M _
  refine zC42 hA.1.1 hA.1 fun y M1 X1 _ _ => ?_
  have hB := z_kee hA X1 (by decide)
  refine ⟨⟨y, rfl⟩, X1, ?_⟩
  rw [zzm213]
  show z_ev 2046 213 0 [some (.ref 19), some (.int x1), some (.int x2), some (.int x3)] [] M1 _
  refine zC213 hB.1.1  fun z M2 X2 _ _ => ?_
  exact ⟨⟨z, rfl⟩, trivial, X2⟩
theorem zJA6 : z_P6 z_JA := by
  intro x1 x2 x3 x4 M ⟨T, hA, hR⟩
  refine z_JA.two (r1 := zw47) (r2 := zw217) (C := fun _ _ => True) hA hR rfl rfl ?_
  rw [zzm47]
  show z_ev 2046 47 0 [some (.ref 4), some (.int x1), some (.int x2), some (.int x3), some (.int x4), none, none] [] M _
  refine zC47 hA.1.1 hA.1 fun y M1 X1 _ _ => ?_
  have hB := z_kee hA X1 (by decide)
  refine ⟨⟨y, rfl⟩, X1, ?_⟩
  rw [zzm217]
  show z_ev 2046 217 0 [some (.ref 19), some (.int x1), some (.int x2), some (.int x3), some (.int x4)] [] M1 _
  refine zC217 hB.1.1  fun z M2 X2 _ _ => ?_
  exact ⟨⟨z, rfl⟩, trivial, X2⟩
theorem zJA7 : z_P7 z_JA := by
  intro x1 x2 x3 M ⟨T, hA, hR⟩
  refine z_JA.two (r1 := zw50) (r2 := zw220) (C := fun _ _ => True) hA hR rfl rfl ?_
  rw [zzm50]
  show z_ev 2046 50 0 [some (.ref 4), some (.int x1), some (.int x2), some (.int x3), none, none] [] M _
  refine zC50 hA.1.1 hA.1 fun y M1 X1 _ _ => ?_
  have hB := z_kee hA X1 (by decide)
  refine ⟨⟨y, rfl⟩, X1, ?_⟩
  rw [zzm220]
  show z_ev 2046 220 0 [some (.ref 19), some (.int x1), some (.int x2), some (.int x3), none, none, none, none, none] [] M1 _
  refine zC220 hB.1.1  fun z M2 X2 _ _ => ?_
  exact ⟨⟨z, rfl⟩, trivial, X2⟩
theorem zJA8 : z_P8 z_JA := by
  intro x1 x2 x3 x4 M ⟨T, hA, hR⟩
  refine z_JA.two (r1 := zw52) (r2 := zw221) (C := fun _ _ => True) hA hR rfl rfl ?_
  rw [zzm52]
  show z_ev 2046 52 0 [some (.ref 4), some (.int x1), some (.int x2), some (.int x3), some (.int x4), none] [] M _
  refine zC52 hA.1.1 hA.1 fun y M1 X1 _ _ => ?_
  have hB := z_kee hA X1 (by decide)
  refine ⟨⟨y, rfl⟩, X1, ?_⟩
  rw [zzm221]
  show z_ev 2046 221 0 [some (.ref 19), some (.int x1), some (.int x2), some (.int x3), some (.int x4), none] [] M1 _
  refine zC221 hB.1.1  fun z M2 X2 _ _ => ?_
  exact ⟨⟨z, rfl⟩, trivial, X2⟩
theorem zJA9 : z_P9 z_JA := by
  intro x1 x2 x3 x4 M ⟨T, hA, hR⟩
  refine z_JA.two (r1 := zw55) (r2 := zw222) (C := fun _ _ => True) hA hR rfl rfl ?_
  rw [zzm55]
  show z_ev 2046 55 0 [some (.ref 4), some (.int x1), some (.int x2), some (.int x3), some (.int x4), none] [] M _
  refine zC55 hA.1.1 hA.1 fun y M1 X1 _ _ => ?_
  have hB := z_kee hA X1 (by decide)
  refine ⟨⟨y, rfl⟩, X1, ?_⟩
  rw [zzm222]
  show z_ev 2046 222 0 [some (.ref 19), some (.int x1), some (.int x2), some (.int x3), some (.int x4)] [] M1 _
  refine zC222 hB.1.1  fun z M2 X2 _ _ => ?_
  exact ⟨⟨z, rfl⟩, trivial, X2⟩
theorem zJA10 : z_P10 z_JA := by
  intro x1 x2 x3 x4 M ⟨T, hA, hR⟩
  refine z_JA.two (r1 := zw57) (r2 := zw224) (C := fun _ _ => True) hA hR rfl rfl ?_
  rw [zzm57]
  show z_ev 2046 57 0 [some (.ref 4), some (.int x1), some (.int x2), some (.int x3), some (.int x4), none, none] [] M _
  refine zC57 hA.1.1 hA.1 fun y M1 X1 _ _ => ?_
  have hB := z_kee hA X1 (by decide)
  refine ⟨⟨y, rfl⟩, X1, ?_⟩
  rw [zzm224]
  show z_ev 2046 224 0 [some (.ref 19), some (.int x1), some (.int x2), some (.int x3), some (.int x4), none, none, none, none, none, none, none] [] M1 _
  refine zC224 hB.1.1  fun z M2 X2  => ?_
  exact ⟨⟨z, rfl⟩, trivial, X2⟩
theorem zJA11 : z_P11 z_JA := by
  intro x1 M ⟨T, hA, hR⟩
  refine z_JA.two (r1 := zw60) (r2 := zw226) (C := fun _ _ => True) hA hR rfl rfl ?_
  rw [zzm60]
  show z_ev 2046 60 0 [some (.ref 4), some (.int x1), none, none] [] M _
  refine zC60 hA.1.1 hA.1 fun y M1 X1 _ _ => ?_
  have hB := z_kee hA X1 (by decide)
  refine ⟨⟨y, rfl⟩, X1, ?_⟩
  rw [zzm226]
  show z_ev 2046 226 0 [some (.ref 19), some (.int x1), none] [] M1 _
  refine zC226 hB.1.1  fun z M2 X2 _ _ => ?_
  exact ⟨⟨z, rfl⟩, trivial, X2⟩
theorem zJA12 : z_P12 z_JA := by
  intro x1 x2 x3 M ⟨T, hA, hR⟩
  refine z_JA.two (r1 := zw62) (r2 := zw227) (C := fun _ _ => True) hA hR rfl rfl ?_
  rw [zzm62]
  show z_ev 2046 62 0 [some (.ref 4), some (.int x1), some (.int x2), some (.int x3), none] [] M _
  refine zC62 hA.1.1 hA.1 fun y M1 X1  => ?_
  have hB := z_kee hA X1 (by decide)
  refine ⟨⟨y, rfl⟩, X1, ?_⟩
  rw [zzm227]
  show z_ev 2046 227 0 [some (.ref 19), some (.int x1), some (.int x2), some (.int x3), none] [] M1 _
  refine zC227 hB.1.1  fun z M2 X2  => ?_
  exact ⟨⟨z, rfl⟩, trivial, X2⟩
theorem zJA13 : z_P13 z_JA := by
  intro x1 x2 x3 M ⟨T, hA, hR⟩
  refine z_JA.two (r1 := zw63) (r2 := zw228) (C := fun _ _ => True) hA hR rfl rfl ?_
  rw [zzm63]
  show z_ev 2046 63 0 [some (.ref 4), some (.int x1), some (.int x2), some (.int x3), none] [] M _
  refine zC63 hA.1.1 hA.1 fun y M1 X1  => ?_
  have hB := z_kee hA X1 (by decide)
  refine ⟨⟨y, rfl⟩, X1, ?_⟩
  rw [zzm228]
  show z_ev 2046 228 0 [some (.ref 19), some (.int x1), some (.int x2), some (.int x3)] [] M1 _
  refine zC228 hB.1.1  fun z M2 X2  => ?_
  exact ⟨⟨z, rfl⟩, trivial, X2⟩
theorem zJA14 : z_P14 z_JA := by
  intro x1 x2 M ⟨T, hA, hR⟩
  refine z_JA.two (r1 := zw66) (r2 := zw231) (C := fun _ _ => True) hA hR rfl rfl ?_
  rw [zzm66]
  show z_ev 2046 66 0 [some (.ref 4), some (.int x1), some (.int x2), none] [] M _
  refine zC66 hA.1.1 hA.1 fun y M1 X1  => ?_
  have hB := z_kee hA X1 (by decide)
  refine ⟨⟨y, rfl⟩, X1, ?_⟩
  rw [zzm231]
  show z_ev 2046 231 0 [some (.ref 19), some (.int x1), some (.int x2)] [] M1 _
  refine zC231 hB.1.1  fun z M2 X2  => ?_
  exact ⟨⟨z, rfl⟩, trivial, X2⟩
theorem zJA15 : z_P15 z_JA := by
  intro x1 x2 M ⟨T, hA, hR⟩
  refine z_JA.two (r1 := zw68) (r2 := zw233) (C := fun _ _ => True) hA hR rfl rfl ?_
  rw [zzm68]
  show z_ev 2046 68 0 [some (.ref 4), some (.int x1), some (.int x2), none] [] M _
  refine zC68 hA.1.1 hA.1 fun y M1 X1  => ?_
  have hB := z_kee hA X1 (by decide)
  refine ⟨⟨y, rfl⟩, X1, ?_⟩
  rw [zzm233]
  show z_ev 2046 233 0 [some (.ref 19), some (.int x1), some (.int x2), none, none, none, none] [] M1 _
  refine zC233 hB.1.1  fun z M2 X2  => ?_
  exact ⟨⟨z, rfl⟩, trivial, X2⟩
theorem zJA18 : z_P18 z_JA := by
  intro x1 x2 x3 M ⟨T, hA, hR⟩
  refine z_JA.two (r1 := zw85) (r2 := zw238) (C := fun _ _ => True) hA hR rfl rfl ?_
  rw [zzm85]
  show z_ev 2046 85 0 [some (.ref 4), some (.int x1), some (.int x2), some (.int x3), none, none, none] [] M _
  refine zC85 hA.1.1 hA.1 fun y M1 X1 _ _ => ?_
  have hB := z_kee hA X1 (by decide)
  refine ⟨⟨y, rfl⟩, X1, ?_⟩
  rw [zzm238]
  show z_ev 2046 238 0 [some (.ref 19), some (.int x1), some (.int x2), some (.int x3)] [] M1 _
  refine zC238 hB.1.1  fun z M2 X2  => ?_
  exact ⟨⟨z, rfl⟩, trivial, X2⟩
theorem zJA19 : z_P19 z_JA := by
  intro x1 x2 M ⟨T, hA, hR⟩
  refine z_JA.two (r1 := zw102) (r2 := zw250) (C := fun _ _ => True) hA hR rfl rfl ?_
  rw [zzm102]
  show z_ev 2046 102 0 [some (.ref 4), some (.int x1), some (.int x2), none] [] M _
  refine zC102 hA.1.1 hA.1 fun y M1 X1 _ _ => ?_
  have hB := z_kee hA X1 (by decide)
  refine ⟨⟨y, rfl⟩, X1, ?_⟩
  rw [zzm250]
  show z_ev 2046 250 0 [some (.ref 19), some (.int x1), some (.int x2), none, none, none] [] M1 _
  refine zC250 hB.1.1 hB.2.2.1 fun z M2 X2  => ?_
  exact ⟨⟨z, rfl⟩, trivial, X2⟩
theorem zJA20 : z_P20 z_JA := by
  intro x1 x2 x3 x4 M ⟨T, hA, hR⟩
  refine z_JA.two (r1 := zw106) (r2 := zw256) (C := fun _ _ => True) hA hR rfl rfl ?_
  rw [zzm106]
  show z_ev 2046 106 0 [some (.ref 4), some (.int x1), some (.int x2), some (.int x3), some (.int x4), none, none] [] M _
  refine zC106 hA.1.1 hA.1 fun y M1 X1  => ?_
  have hB := z_kee hA X1 (by decide)
  refine ⟨⟨y, rfl⟩, X1, ?_⟩
  rw [zzm256]
  show z_ev 2046 256 0 [some (.ref 19), some (.int x1), some (.int x2), some (.int x3), some (.int x4), none, none, none, none, none] [] M1 _
  refine zC256 hB.1.1 hB.2.2.1 fun z M2 X2  => ?_
  exact ⟨⟨z, rfl⟩, trivial, X2⟩
theorem zJA21 : z_P21 z_JA := by
  intro x1 x2 x3 x4 x5 M ⟨T, hA, hR⟩
  refine z_JA.two (r1 := zw112) (r2 := zw258) (C := fun _ _ => True) hA hR rfl rfl ?_
  rw [zzm112]
  show z_ev 2046 112 0 [some (.ref 4), some (.int x1), some (.int x2), some (.int x3), some (.int x4), some (.int x5), none, none, none] [] M _
  refine zC112 hA.1.1 hA.1 fun y M1 X1  => ?_
  have hB := z_kee hA X1 (by decide)
  refine ⟨⟨y, rfl⟩, X1, ?_⟩
  rw [zzm258]
  show z_ev 2046 258 0 [some (.ref 19), some (.int x1), some (.int x2), some (.int x3), some (.int x4), some (.int x5), none, none, none, none, none, none, none] [] M1 _
  refine zC258 hB.1.1 hB.2.2.1 fun z M2 X2  => ?_
  exact ⟨⟨z, rfl⟩, trivial, X2⟩
theorem zJA22 : z_P22 z_JA := by
  intro x1 x2 x3 x4 M ⟨T, hA, hR⟩
  refine z_JA.two (r1 := zw114) (r2 := zw259) (C := fun _ _ => True) hA hR rfl rfl ?_
  rw [zzm114]
  show z_ev 2046 114 0 [some (.ref 4), some (.int x1), some (.int x2), some (.int x3), some (.int x4), none, none, none] [] M _
  refine zC114 hA.1.1 hA.1 fun y M1 X1  => ?_
  have hB := z_kee hA X1 (by decide)
  refine ⟨⟨y, rfl⟩, X1, ?_⟩
  rw [zzm259]
  show z_ev 2046 259 0 [some (.ref 19), some (.int x1), some (.int x2), some (.int x3), some (.int x4), none, none, none] [] M1 _
  refine zC259 hB.1.1 hB.2.2.1 fun z M2 X2  => ?_
  exact ⟨⟨z, rfl⟩, trivial, X2⟩
theorem zJA23 : z_P23 z_JA := by
  intro x1 x2 x3 M ⟨T, hA, hR⟩
  refine z_JA.two (r1 := zw116) (r2 := zw260) (C := fun _ _ => True) hA hR rfl rfl ?_
  rw [zzm116]
  show z_ev 2046 116 0 [some (.ref 4), some (.int x1), some (.int x2), some (.int x3), none, none] [] M _
  refine zC116 hA.1.1 hA.1 fun y M1 X1 _ _ => ?_
  have hB := z_kee hA X1 (by decide)
  refine ⟨⟨y, rfl⟩, X1, ?_⟩
  rw [zzm260]
  show z_ev 2046 260 0 [some (.ref 19), some (.int x1), some (.int x2), some (.int x3)] [] M1 _
  refine zC260 hB.1.1  fun z M2 X2 _ _ => ?_
  exact ⟨⟨z, rfl⟩, trivial, X2⟩
theorem zJA25 : z_P25 z_JA := by
  intro x1 x2 x3 x4 M ⟨T, hA, hR⟩
  refine z_JA.two (r1 := zw129) (r2 := zw264) (C := fun _ _ => True) hA hR rfl rfl ?_
  rw [zzm129]
  show z_ev 2046 129 0 [some (.ref 4), some (.int x1), some (.int x2), some (.int x3), some (.int x4), none, none] [] M _
  refine zC129 hA.1.1 hA.1 fun y M1 X1 _ _ => ?_
  have hB := z_kee hA X1 (by decide)
  refine ⟨⟨y, rfl⟩, X1, ?_⟩
  rw [zzm264]
  show z_ev 2046 264 0 [some (.ref 19), some (.int x1), some (.int x2), some (.int x3), some (.int x4)] [] M1 _
  refine zC264 hB.1.1 hB.2.2.1 fun z M2 X2 _ _ => ?_
  exact ⟨⟨z, rfl⟩, trivial, X2⟩
theorem zJA26 : z_P26 z_JA := by
  intro x1 x2 x3 M ⟨T, hA, hR⟩
  refine z_JA.two (r1 := zw144) (r2 := zw271) (C := fun _ _ => True) hA hR rfl rfl ?_
  rw [zzm144]
  show z_ev 2046 144 0 [some (.ref 4), some (.int x1), some (.int x2), some (.int x3), none, none] [] M _
  refine zC144 hA.1.1 hA.1 fun y M1 X1 _ _ => ?_
  have hB := z_kee hA X1 (by decide)
  refine ⟨⟨y, rfl⟩, X1, ?_⟩
  rw [zzm271]
  show z_ev 2046 271 0 [some (.ref 19), some (.int x1), some (.int x2), some (.int x3), none, none, none] [] M1 _
  refine zC271 hB.1.1 hB.2.2.1 fun z M2 X2 _ _ => ?_
  exact ⟨⟨z, rfl⟩, trivial, X2⟩
theorem zJA27 : z_P27 z_JA := by
  intro x1 x2 x3 M ⟨T, hA, hR⟩
  refine z_JA.two (r1 := zw146) (r2 := zw272) (C := fun _ _ => True) hA hR rfl rfl ?_
  rw [zzm146]
  show z_ev 2046 146 0 [some (.ref 4), some (.int x1), some (.int x2), some (.int x3), none] [] M _
  refine zC146 hA.1.1 hA.1 fun y M1 X1  => ?_
  have hB := z_kee hA X1 (by decide)
  refine ⟨⟨y, rfl⟩, X1, ?_⟩
  rw [zzm272]
  show z_ev 2046 272 0 [some (.ref 19), some (.int x1), some (.int x2), some (.int x3), none, none, none, none] [] M1 _
  refine zC272 hB.1.1  fun z M2 X2  => ?_
  exact ⟨⟨z, rfl⟩, trivial, X2⟩
def z_PP28 (I : zH → Prop) : Prop := ∀ (x1 : Int32) (x2 : Int32) (x3 : Int32) (M : zH), I M → z_ev 2046 154 0 (z_ent [.ref 4, .int x1, .int x2, .int x3] (z_ml 154)) [] M fun v M1 => (∃ y, v = some (.int y)) ∧ z_ev 2046 274 0 (z_ent [.ref 19, .int x1, .int x2, .int x3] (z_ml 274)) [] M1 fun v2 M2 => (∃ y, v2 = some (.int y)) ∧ True ∧ I M2 ∧ M2.length ≤ M.length + 1171 ∧ z_szr M2 ≤ z_szr M + 14000
theorem zJA28 : z_PP28 z_JA := by
  intro x1 x2 x3 M ⟨T, hA, hR⟩
  refine z_JA.two (r1 := zw154) (r2 := zw274) (C := fun _ _ => True) hA hR rfl rfl ?_
  rw [zzm154]
  show z_ev 2046 154 0 [some (.ref 4), some (.int x1), some (.int x2), some (.int x3), none] [] M _
  refine zC154 hA.1.1 hA.1 fun y M1 X1  => ?_
  have hB := z_kee hA X1 (by decide)
  refine ⟨⟨y, rfl⟩, X1, ?_⟩
  rw [zzm274]
  show z_ev 2046 274 0 [some (.ref 19), some (.int x1), some (.int x2), some (.int x3)] [] M1 _
  refine zC274 hB.1.1  fun z M2 X2  => ?_
  exact ⟨⟨z, rfl⟩, trivial, X2⟩
theorem zJA37 : z_P37 z_JA := by
  intro x1 M ⟨T, hA, hR⟩
  refine z_JA.two (r1 := zw185) (r2 := zw292) (C := fun _ _ => True) hA hR rfl rfl ?_
  rw [zzm185]
  show z_ev 2046 185 0 [some (.ref 4), some (.int x1)] [] M _
  refine zC185 hA.1.1 hA.1 fun y M1 X1  => ?_
  have hB := z_kee hA X1 (by decide)
  refine ⟨⟨y, rfl⟩, X1, ?_⟩
  rw [zzm292]
  show z_ev 2046 292 0 [some (.ref 19), some (.int x1), none, none] [] M1 _
  refine zC292 hB.1.1  fun z M2 X2  => ?_
  exact ⟨⟨z, rfl⟩, trivial, X2⟩

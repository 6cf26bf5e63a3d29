set_option maxRecDepth 100000 in
set_option maxHeartbeats 4000000 in
theorem s0 (X : xX) (σ : Nat → Nat → Int32) : xV X 0 (0, [.retAddr 0, .float 0, .float 0, .float 0], [], ([], σ)) = xV X 0 (18, [.retAddr 0, .ref 0, .ref 78, .int (nI 0)], [], (xshM, sMod (xzr (sKin (xzr σ 0)) 78))) := by
  have q1 := e86 X (xzr σ 0)
  have q2 := e120 X (xzr (sKin (xzr σ 0)) 78)
  rw [nI_0]
  rw [xV_d X 0 [18] 40]
  simp [xent, xsl, Value.category, xr_d, xr_0, xg_nx, xg_n, xg_o, xg_c, xth_s, xth_v, xth_ite, xth_n, xd_iconst, xd_bipush, xd_sipush, xd_lconst, xd_iload, xd_iload_n, xd_lload, xd_lload_n, xd_aload, xd_aload_n, xd_istore, xd_istore_n, xd_astore, xd_astore_n, xd_lstore, xd_lstore_n, xd_iadd, xd_isub, xd_imul, xd_iand, xd_ior, xd_ishl, xd_ishr, xd_ladd, xd_lsub, xd_lmul, xd_land, xd_lor, xd_idiv, xd_irem, xd_ldiv, xd_lrem, xd_ineg, xd_lneg, xd_lshl, xd_lshr, xd_lcmp, xd_i2l, xd_l2i, xd_dup_int, xd_dup_ref, xd_pop, xd_dup2, xd_goto, xd_ifC, xd_ifI, xd_getf, xd_putI, xd_putR, xd_iald, xd_ialdX, xd_bald, xd_iast, xd_bast, xd_aald, xd_aast, xd_alen, xd_alenX, xd_newI, xd_newZ, xd_newQ, xd_newO, xd_invS, xd_invV, xd_invI, xd_iret, xd_lret, xd_vret, xd_ldc, xd_ldc2, xd_iinc, xd_aret, xd_tsw, xd_lsw, xC_d, xld, xisI, xisL, xisA, xgo_ite, xjp, xcmp, xrt, xinv, xcall, xpop, xcat, xgf, xal, xas, xpf, xle, xaq, xbite, xbite2, xsto, xsto2, xst1, xst2, xkl, xtt, xnum, xi0, xzf, v3, List.getElem?_cons_zero, List.getElem?_cons_succ, List.set_cons_zero, List.set_cons_succ, d0_0, d0_3, d0_4, d0_7, d0_8, d0_11, d0_12, d0_15, d0_16, d0_17, d0_18, d0_19, d0_20, d0_21, d0_22, d0_23, d0_26, d0_27, d0_28, d0_29, d0_31, d0_32, d0_148, d0_149, d0_150, d0_151, d0_152, d0_153, d0_154, d0_155, d0_156, d0_157, d0_158, d0_159, d0_160, d0_161, d0_162, d0_163, d0_164, d0_165, d0_166, d0_167, d0_168, d0_169, d0_172, d0_173, d0_174, d0_175, d0_176, d0_177, d0_178, d0_179, d0_180, d0_181, d0_182, d0_183, d0_184, d0_185, d0_186, d0_187, d0_188, d0_189, d0_190, d0_191, d0_192, d0_193, d0_196, d0_199, d0_200, d0_201, d0_202, d0_203, d0_204, d0_205, d0_206, d0_207, d0_210, d0_211, d0_212, d0_213, d0_214, d0_215, d0_216, d0_219, d0_222, d0_223, d0_224, d0_225, d0_228, d0_229, d0_232, d0_235, d0_236, d0_237, d0_238, d0_241, d0_242, d0_245, d0_248, d0_249, d0_250, d0_251, d0_252, d0_253, d0_254, d0_255, d0_256, d0_259, d0_260, d0_261, d0_262, d0_263, d0_264, d0_265, d0_268, d0_271, d0_272, d0_273, d0_274, d0_277, d0_278, d0_281, d0_284, d0_285, d0_286, d0_287, d0_288, d0_289, d0_290, d0_291, d0_292, d0_293, d0_294, d0_295, d0_296, d0_297, d0_300, d0_301, d0_302, d0_303, d0_304, d0_305, d0_306, d0_307, d0_308, d0_309, d0_310, d0_311, d0_314, d0_317, d0_318, d0_319, d0_320, d0_321, d0_322, d0_323, d0_324, d0_325, d0_328, d0_329, d0_330, d0_331, d0_332, d0_333, d0_334, d0_337, d0_340, d0_341, d0_342, d0_343, d0_344, d0_345, d0_346, d0_347, d0_348, d0_351, d0_352, d0_353, d0_354, d0_355, d0_356, d0_357, d0_360, d0_363, d0_364, d0_365, d0_366, d0_367, d0_368, d0_369, d0_370, d0_371, d0_372, d0_373, d0_374, d0_375, d0_376, d0_379, d0_380, d0_381, d0_382, d0_383, d0_384, d0_385, d0_386, d0_387, d0_388, d0_389, d0_390, d0_393, d0_396, d0_397, d0_398, d0_399, d0_400, d0_401, d0_402, d0_403, d0_404, d0_407, d0_408, d0_409, d0_410, d0_411, d0_412, d0_413, d0_416, d0_417, d0_420, d0_421, d0_422, d0_423, d0_426, d0_427, d0_430, d0_433, d0_434, d0_435, d0_436, d0_437, d0_438, d0_439, d0_440, d0_441, d0_442, d0_443, d0_444, d0_445, d0_446, d0_449, d0_450, d0_451, d0_452, d0_453, d0_454, d0_455, d0_456, d0_457, d0_458, d0_459, d0_460, d0_463, d0_466, d0_467, d0_468, d0_469, d0_470, d0_471, d0_472, d0_473, d0_474, d0_475, d0_476, d0_477, d0_478, d0_479, d0_480, d0_481, d0_482, d0_483, d0_484, d0_485, d0_486, d0_487, d0_488, d0_489, d0_492, d0_493, d0_494, d0_495, d0_496, d0_497, d0_498, d0_499, d0_500, d0_501, d0_502, d0_503, d0_504, d0_505, d0_506, d0_507, d0_508, d0_509, d0_510, d0_511, d0_512, d0_513, d0_516, d0_517, d0_520, d0_521, d0_522, d0_523, d0_524, d0_525, d0_526, d0_527, d0_528, d0_529, d0_530, d0_531, d0_532, d0_533, d0_534, d0_535, d0_536, d0_537, d0_538, d0_539, d0_540, d0_541, d0_542, d0_543, d0_546, d0_547, d0_548, d0_549, d0_550, d0_551, d0_552, d0_553, d0_554, d0_555, d0_556, d0_557, d0_558, d0_559, d0_560, d0_561, d0_562, d0_563, d0_564, d0_565, d0_566, d0_567, d0_570, d0_571, d0_574, d0_575, d0_576, d0_577, d0_578, d0_579, d0_580, d0_581, d0_582, d0_583, d0_584, d0_585, d0_586, d0_587, d0_588, d0_589, d0_590, d0_591, d0_592, d0_595, d0_596, d0_597, d0_598, d0_599, d0_600, d0_601, d0_602, d0_603, d0_604, d0_605, d0_606, d0_607, d0_608, d0_609, d0_610, d0_611, d0_614, d0_615, d0_618, d0_619, d0_620, d0_621, d0_622, d0_623, d0_624, d0_625, d0_626, d0_627, d0_628, d0_629, d0_630, d0_631, d0_632, d0_633, d0_634, d0_635, d0_636, d0_639, d0_640, d0_643, d0_644, d0_647, d0_648, d0_649, d0_650, d0_651, d0_652, d0_653, d0_654, d0_655, d0_656, d0_657, d0_658, d0_659, d0_660, d0_661, d0_662, d0_663, d0_666, d0_667, d0_670, d0_671, d0_674, d0_677, d0_678, d0_679, d0_680, d0_683, d0_684, d0_687, d0_690, d0_691, d0_692, d0_693, d0_694, d0_695, d0_696, d0_697, d0_698, d0_701, d0_702, d0_703, d0_704, d0_705, d0_706, d0_707, d0_710, d0_713, d0_714, d0_715, d0_716, d0_717, d0_718, d0_719, d0_720, d0_721, d0_724, d0_725, d0_726, d0_727, d0_728, d0_729, d0_730, d0_733, d0_736, d0_737, d0_738, d0_739, d0_740, d0_741, d0_742, d0_743, d0_744, d0_745, d0_746, d0_747, d0_748, d0_749, d0_750, d0_751, d0_752, d0_753, d0_754, d0_757, d0_758, d0_759, d0_760, d0_761, d0_762, d0_763, d0_764, d0_765, d0_766, d0_767, d0_768, d0_769, d0_770, d0_771, d0_772, d0_773, d0_776, d0_777, d0_780, d0_781, d0_782, d0_783, d0_784, d0_785, d0_786, d0_787, d0_788, d0_789, d0_790, d0_791, d0_792, d0_793, d0_794, d0_795, d0_796, d0_797, d0_798, d0_801, d0_802, d0_803, d0_804, d0_805, d0_806, d0_807, d0_808, d0_809, d0_810, d0_811, d0_812, d0_813, d0_814, d0_815, d0_816, d0_817, d0_820, d0_823, d0_824, d0_825, d0_826, d0_827, d0_828, d0_829, d0_830, d0_831, d0_834, d0_835, d0_836, d0_837, d0_838, d0_839, d0_840, d0_843, d0_846, d0_847, d0_848, d0_849, d0_850, d0_851, d0_852, d0_853, d0_854, d0_857, d0_858, d0_859, d0_860, d0_861, d0_862, d0_863, d0_866, d0_869, d0_870, d0_871, d0_872, d0_873, d0_874, d0_875, d0_876, d0_877, d0_880, d0_881, d0_882, d0_883, d0_884, d0_885, d0_886, d0_889, d0_892, d0_893, d0_894, d0_897, d0_900, d0_901, wo0, wm0, wr0, m11_100, m11_101, m11_104, m11_105, m11_109, m11_110, m11_113, m11_114, m11_117, m11_118, m11_12, m11_121, m11_13, m11_17, m11_18, m11_22, m11_23, m11_27, m11_28, m11_31, m11_32, m11_35, m11_36, m11_39, m11_40, m11_44, m11_45, m11_48, m11_49, m11_52, m11_53, m11_56, m11_57, m11_61, m11_62, m11_65, m11_66, m11_69, m11_70, m11_74, m11_75, m11_78, m11_79, m11_83, m11_84, m11_88, m11_89, m11_9, m11_92, m11_93, m11_96, m11_97, n11_10, n11_7, r0_101, r0_104, r0_105, r0_106, r0_107, r0_108, r0_109, r0_110, r0_111, r0_112, r0_113, r0_114, r0_115, r0_116, r0_117, r0_120, r0_128, r0_132, r0_133, r0_134, r0_137, r0_146, r0_148, r0_149, r0_150, r0_151, r0_155, r0_159, r0_160, r0_161, r0_162, r0_169, r0_170, r0_171, r0_172, r0_175, r0_176, r0_177, r0_178, r0_179, r0_180, r0_86, r0_89, r0_91, r0_92, r0_93, r0_94, r0_95, r0_96, r0_97, r0_98, r0_99, wm101, wm104, wm105, wm106, wm107, wm108, wm109, wm110, wm111, wm112, wm113, wm114, wm115, wm116, wm117, wm120, wm128, wm132, wm133, wm134, wm137, wm146, wm148, wm149, wm150, wm151, wm155, wm159, wm160, wm161, wm162, wm169, wm170, wm171, wm172, wm175, wm176, wm177, wm178, wm179, wm180, wm86, wm89, wm91, wm92, wm93, wm94, wm95, wm96, wm97, wm98, wm99, wo101, wo104, wo105, wo106, wo107, wo108, wo109, wo110, wo111, wo112, wo113, wo114, wo115, wo116, wo117, wo128, wo132, wo133, wo134, wo137, wo146, wo148, wo149, wo150, wo151, wo155, wo159, wo160, wo161, wo162, wo169, wo170, wo171, wo172, wo175, wo176, wo177, wo178, wo179, wo180, wo89, wo91, wo92, wo93, wo94, wo95, wo96, wo97, wo98, wo99, b8_31, xnwo, xblank, q1, q2, xshK_l]
theorem loop0 (X : xX) (hX : X.1 ≤ 2560)  : ∀ d k σ, X.1 < k + 5 * d → k ≤ X.1 → Rel σ → ∃ σ', xV X 0 (18, [.retAddr 0, .ref 0, .ref 78, .int (nI k)], [], (xshM, σ)) = some (some (.int 1), (xshM, σ'))
  | 0, k, σ, hd, hk, hR => by omega
  | d + 1, k, σ, hd, hk, hR => by
    by_cases g : k + 5 ≤ X.1
    · obtain ⟨c, c32, hc⟩ := pk_andE (X.2 k) (m := 31) 5 (by decide)
      rcases (show c = 0 ∨ c = 1 ∨ c = 2 ∨ c = 3 ∨ c = 4 ∨ c = 5 ∨ c = 6 ∨ c = 7 ∨ c = 8 ∨ c = 9 ∨ c = 10 ∨ c = 11 ∨ c = 12 ∨ c = 13 ∨ c = 14 ∨ c = 15 ∨ c = 16 ∨ c = 17 ∨ c = 18 ∨ c = 19 ∨ c = 20 ∨ c = 21 ∨ c = 22 ∨ c = 23 ∨ c = 24 ∨ c = 25 ∨ c = 26 ∨ c = 27 ∨ c = 28 ∨ c = 29 ∨ c = 30 ∨ c = 31 by omega) with e | e | e | e | e | e | e | e | e | e | e | e | e | e | e | e | e | e | e | e | e | e | e | e | e | e | e | e | e | e | e | e
      · subst e
        obtain ⟨v, σ1, σ2, q1, q2, hR2⟩ := c_0 X σ (X.2 (k + 1)) (X.2 (k + 2)) (X.2 (k + 3)) (X.2 (k + 4)) hR
        rw [j0_0 X σ σ1 σ2 k hX g hc v q1 q2]
        exact loop0 X hX  d (k + 5) σ2 (by omega) g hR2
      · subst e
        obtain ⟨v, σ1, σ2, q1, q2, hR2⟩ := c_1 X σ (X.2 (k + 1)) hR
        rw [j0_1 X σ σ1 σ2 k hX g hc v q1 q2]
        exact loop0 X hX  d (k + 5) σ2 (by omega) g hR2
      · subst e
        obtain ⟨v, σ1, σ2, q1, q2, hR2⟩ := c_2 X σ hR
        rw [j0_2 X σ σ1 σ2 k hX g hc v q1 q2]
        exact loop0 X hX  d (k + 5) σ2 (by omega) g hR2
      · subst e
        obtain ⟨v, σ1, σ2, q1, q2, hR2⟩ := c_3 X σ hR
        rw [j0_3 X σ σ1 σ2 k hX g hc v q1 q2]
        exact loop0 X hX  d (k + 5) σ2 (by omega) g hR2
      · subst e
        obtain ⟨v, σ1, σ2, q1, q2, hR2⟩ := c_4 X σ (X.2 (k + 1)) hR
        rw [j0_4 X σ σ1 σ2 k hX g hc v q1 q2]
        exact loop0 X hX  d (k + 5) σ2 (by omega) g hR2
      · subst e
        obtain ⟨v, σ1, σ2, q1, q2, hR2⟩ := c_5 X σ hR
        rw [j0_5 X σ σ1 σ2 k hX g hc v q1 q2]
        exact loop0 X hX  d (k + 5) σ2 (by omega) g hR2
      · subst e
        obtain ⟨v, σ1, σ2, q1, q2, hR2⟩ := c_6 X σ (X.2 (k + 1)) (X.2 (k + 2)) hR
        rw [j0_6 X σ σ1 σ2 k hX g hc v q1 q2]
        exact loop0 X hX  d (k + 5) σ2 (by omega) g hR2
      · subst e
        obtain ⟨v, σ1, σ2, q1, q2, hR2⟩ := c_7 X σ (X.2 (k + 1)) hR
        rw [j0_7 X σ σ1 σ2 k hX g hc v q1 q2]
        exact loop0 X hX  d (k + 5) σ2 (by omega) g hR2
      · subst e
        obtain ⟨v, σ1, σ2, q1, q2, hR2⟩ := c_8 X σ (X.2 (k + 1)) hR
        rw [j0_8 X σ σ1 σ2 k hX g hc v q1 q2]
        exact loop0 X hX  d (k + 5) σ2 (by omega) g hR2
      · subst e
        obtain ⟨v, σ1, σ2, q1, q2, hR2⟩ := c_9 X σ (X.2 (k + 1)) (X.2 (k + 2)) hR
        rw [j0_9 X σ σ1 σ2 k hX g hc v q1 q2]
        exact loop0 X hX  d (k + 5) σ2 (by omega) g hR2
      · subst e
        obtain ⟨v, σ1, σ2, q1, q2, hR2⟩ := c_10 X σ (X.2 (k + 1)) hR
        rw [j0_10 X σ σ1 σ2 k hX g hc v q1 q2]
        exact loop0 X hX  d (k + 5) σ2 (by omega) g hR2
      · subst e
        obtain ⟨v, σ1, σ2, q1, q2, hR2⟩ := c_11 X σ hR
        rw [j0_11 X σ σ1 σ2 k hX g hc v q1 q2]
        exact loop0 X hX  d (k + 5) σ2 (by omega) g hR2
      · subst e
        obtain ⟨v, σ1, σ2, q1, q2, hR2⟩ := c_12 X σ (X.2 (k + 1)) (X.2 (k + 2)) hR
        rw [j0_12 X σ σ1 σ2 k hX g hc v q1 q2]
        exact loop0 X hX  d (k + 5) σ2 (by omega) g hR2
      · subst e
        obtain ⟨v, σ1, σ2, q1, q2, hR2⟩ := c_13 X σ (X.2 (k + 1)) (X.2 (k + 2)) (X.2 (k + 3)) (X.2 (k + 4)) hR
        rw [j0_13 X σ σ1 σ2 k hX g hc v q1 q2]
        exact loop0 X hX  d (k + 5) σ2 (by omega) g hR2
      · subst e
        obtain ⟨v, σ1, σ2, q1, q2, hR2⟩ := c_14 X σ (X.2 (k + 1)) (X.2 (k + 2)) (X.2 (k + 3)) (X.2 (k + 4)) hR
        rw [j0_14 X σ σ1 σ2 k hX g hc v q1 q2]
        exact loop0 X hX  d (k + 5) σ2 (by omega) g hR2
      · subst e
        obtain ⟨v, σ1, σ2, q1, q2, hR2⟩ := c_15 X σ (X.2 (k + 1)) (X.2 (k + 2)) (X.2 (k + 3)) hR
        rw [j0_15 X σ σ1 σ2 k hX g hc v q1 q2]
        exact loop0 X hX  d (k + 5) σ2 (by omega) g hR2
      · subst e
        obtain ⟨v, σ1, σ2, q1, q2, hR2⟩ := c_16 X σ (X.2 (k + 1)) (X.2 (k + 2)) (!decide (X.2 (k + 3) = 0)) hR
        rw [j0_16 X σ σ1 σ2 k hX g hc v q1 q2]
        exact loop0 X hX  d (k + 5) σ2 (by omega) g hR2
      · subst e
        obtain ⟨v, σ1, σ2, q1, q2, hR2⟩ := c_17 X σ hR
        rw [j0_17 X σ σ1 σ2 k hX g hc v q1 q2]
        exact loop0 X hX  d (k + 5) σ2 (by omega) g hR2
      · subst e
        obtain ⟨v, σ1, σ2, q1, q2, hR2⟩ := c_18 X σ (X.2 (k + 1)) hR
        rw [j0_18 X σ σ1 σ2 k hX g hc v q1 q2]
        exact loop0 X hX  d (k + 5) σ2 (by omega) g hR2
      · subst e
        obtain ⟨v, σ1, σ2, q1, q2, hR2⟩ := c_19 X σ (X.2 (k + 1)) hR
        rw [j0_19 X σ σ1 σ2 k hX g hc v q1 q2]
        exact loop0 X hX  d (k + 5) σ2 (by omega) g hR2
      · subst e
        obtain ⟨v, σ1, σ2, q1, q2, hR2⟩ := c_20 X σ (X.2 (k + 1)) (X.2 (k + 2)) (X.2 (k + 3)) hR
        rw [j0_20 X σ σ1 σ2 k hX g hc v q1 q2]
        exact loop0 X hX  d (k + 5) σ2 (by omega) g hR2
      · subst e
        obtain ⟨v, σ1, σ2, q1, q2, hR2⟩ := c_21 X σ (X.2 (k + 1)) (X.2 (k + 2)) (X.2 (k + 3)) hR
        rw [j0_21 X σ σ1 σ2 k hX g hc v q1 q2]
        exact loop0 X hX  d (k + 5) σ2 (by omega) g hR2
      · subst e
        obtain ⟨v, σ1, σ2, q1, q2, hR2⟩ := c_22 X σ (X.2 (k + 1)) hR
        rw [j0_22 X σ σ1 σ2 k hX g hc v q1 q2]
        exact loop0 X hX  d (k + 5) σ2 (by omega) g hR2
      · subst e
        obtain ⟨v, σ1, σ2, q1, q2, hR2⟩ := c_23 X σ (X.2 (k + 1)) hR
        rw [j0_23 X σ σ1 σ2 k hX g hc v q1 q2]
        exact loop0 X hX  d (k + 5) σ2 (by omega) g hR2
      · subst e
        obtain ⟨v, σ1, σ2, q1, q2, hR2⟩ := c_24 X σ (X.2 (k + 1)) hR
        rw [j0_24 X σ σ1 σ2 k hX g hc v q1 q2]
        exact loop0 X hX  d (k + 5) σ2 (by omega) g hR2
      · subst e
        rw [j0_25 X σ k hX g hc]
        exact loop0 X hX  d (k + 5) σ (by omega) g hR
      · subst e
        rw [j0_26 X σ k hX g hc]
        exact loop0 X hX  d (k + 5) σ (by omega) g hR
      · subst e
        rw [j0_27 X σ k hX g hc]
        exact loop0 X hX  d (k + 5) σ (by omega) g hR
      · subst e
        rw [j0_28 X σ k hX g hc]
        exact loop0 X hX  d (k + 5) σ (by omega) g hR
      · subst e
        rw [j0_29 X σ k hX g hc]
        exact loop0 X hX  d (k + 5) σ (by omega) g hR
      · subst e
        rw [j0_30 X σ k hX g hc]
        exact loop0 X hX  d (k + 5) σ (by omega) g hR
      · subst e
        rw [j0_31 X σ k hX g hc]
        exact loop0 X hX  d (k + 5) σ (by omega) g hR
    · exact ⟨σ, x0 X σ k hX (by omega) hk⟩
/-- the law answers 1, whatever the script -/
theorem law1 (X : xX) (hX : X.1 ≤ 2560)  (σ : Nat → Nat → Int32) : ∃ σ', xV X 0 (0, [.retAddr 0, .float 0, .float 0, .float 0], [], ([], σ)) = some (some (.int 1), (xshM, σ')) := by
  obtain ⟨σ', h⟩ := loop0 X hX  513 0 _ (by omega) (by omega) (ini_R (xzr σ 0))
  exact ⟨_, by rw [s0, h]⟩

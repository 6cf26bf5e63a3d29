theorem w0 : xown 0 = 11 ∧ xml 0 = 4 ∧ xret 0 = (some .boolean) := by decide +kernel
theorem wo0 : xown 0 = 11 := w0.1
theorem wm0 : xml 0 = 4 := w0.2.1
theorem wr0 : xret 0 = (some .boolean) := w0.2.2
theorem w1 : xown 1 = 0 ∧ xml 1 = 2 ∧ xret 1 = none := by decide +kernel
theorem wo1 : xown 1 = 0 := w1.1
theorem wm1 : xml 1 = 2 := w1.2.1
theorem wr1 : xret 1 = none := w1.2.2
theorem wi1 : (xy 1).name = "<init>" := by decide +kernel
theorem w2 : xown 2 = 0 ∧ xml 2 = 2 ∧ xret 2 = none := by decide +kernel
theorem wo2 : xown 2 = 0 := w2.1
theorem wm2 : xml 2 = 2 := w2.2.1
theorem wr2 : xret 2 = none := w2.2.2
theorem w3 : xown 3 = 0 ∧ xml 3 = 8 ∧ xret 3 = (some .boolean) := by decide +kernel
theorem wo3 : xown 3 = 0 := w3.1
theorem wm3 : xml 3 = 8 := w3.2.1
theorem wr3 : xret 3 = (some .boolean) := w3.2.2
theorem w4 : xown 4 = 0 ∧ xml 4 = 2 ∧ xret 4 = (some .int) := by decide +kernel
theorem wo4 : xown 4 = 0 := w4.1
theorem wm4 : xml 4 = 2 := w4.2.1
theorem wr4 : xret 4 = (some .int) := w4.2.2
theorem w5 : xown 5 = 0 ∧ xml 5 = 2 ∧ xret 5 = (some .int) := by decide +kernel
theorem wo5 : xown 5 = 0 := w5.1
theorem wm5 : xml 5 = 2 := w5.2.1
theorem wr5 : xret 5 = (some .int) := w5.2.2
theorem w6 : xown 6 = 0 ∧ xml 6 = 3 ∧ xret 6 = (some .int) := by decide +kernel
theorem wo6 : xown 6 = 0 := w6.1
theorem wm6 : xml 6 = 3 := w6.2.1
theorem wr6 : xret 6 = (some .int) := w6.2.2
theorem w7 : xown 7 = 0 ∧ xml 7 = 6 ∧ xret 7 = (some .int) := by decide +kernel
theorem wo7 : xown 7 = 0 := w7.1
theorem wm7 : xml 7 = 6 := w7.2.1
theorem wr7 : xret 7 = (some .int) := w7.2.2
theorem w8 : xown 8 = 0 ∧ xml 8 = 4 ∧ xret 8 = none := by decide +kernel
theorem wo8 : xown 8 = 0 := w8.1
theorem wm8 : xml 8 = 4 := w8.2.1
theorem wr8 : xret 8 = none := w8.2.2
theorem w9 : xown 9 = 0 ∧ xml 9 = 2 ∧ xret 9 = (some .int) := by decide +kernel
theorem wo9 : xown 9 = 0 := w9.1
theorem wm9 : xml 9 = 2 := w9.2.1
theorem wr9 : xret 9 = (some .int) := w9.2.2
theorem w10 : xown 10 = 0 ∧ xml 10 = 2 ∧ xret 10 = (some .boolean) := by decide +kernel
theorem wo10 : xown 10 = 0 := w10.1
theorem wm10 : xml 10 = 2 := w10.2.1
theorem wr10 : xret 10 = (some .boolean) := w10.2.2
theorem w11 : xown 11 = 0 ∧ xml 11 = 2 ∧ xret 11 = (some .int) := by decide +kernel
theorem wo11 : xown 11 = 0 := w11.1
theorem wm11 : xml 11 = 2 := w11.2.1
theorem wr11 : xret 11 = (some .int) := w11.2.2
theorem w12 : xown 12 = 0 ∧ xml 12 = 2 ∧ xret 12 = (some .int) := by decide +kernel
theorem wo12 : xown 12 = 0 := w12.1
theorem wm12 : xml 12 = 2 := w12.2.1
theorem wr12 : xret 12 = (some .int) := w12.2.2
theorem w13 : xown 13 = 0 ∧ xml 13 = 5 ∧ xret 13 = none := by decide +kernel
theorem wo13 : xown 13 = 0 := w13.1
theorem wm13 : xml 13 = 5 := w13.2.1
theorem wr13 : xret 13 = none := w13.2.2
theorem w14 : xown 14 = 0 ∧ xml 14 = 3 ∧ xret 14 = none := by decide +kernel
theorem wo14 : xown 14 = 0 := w14.1
theorem wm14 : xml 14 = 3 := w14.2.1
theorem wr14 : xret 14 = none := w14.2.2
theorem w15 : xown 15 = 0 ∧ xml 15 = 1 ∧ xret 15 = (some (.object "KineticCup$Tally")) := by decide +kernel
theorem wo15 : xown 15 = 0 := w15.1
theorem wm15 : xml 15 = 1 := w15.2.1
theorem wr15 : xret 15 = (some (.object "KineticCup$Tally")) := w15.2.2
theorem w16 : xown 16 = 0 ∧ xml 16 = 4 ∧ xret 16 = (some .int) := by decide +kernel
theorem wo16 : xown 16 = 0 := w16.1
theorem wm16 : xml 16 = 4 := w16.2.1
theorem wr16 : xret 16 = (some .int) := w16.2.2
theorem w17 : xown 17 = 0 ∧ xml 17 = 4 ∧ xret 17 = (some .int) := by decide +kernel
theorem wo17 : xown 17 = 0 := w17.1
theorem wm17 : xml 17 = 4 := w17.2.1
theorem wr17 : xret 17 = (some .int) := w17.2.2
theorem w18 : xown 18 = 0 ∧ xml 18 = 4 ∧ xret 18 = (some .int) := by decide +kernel
theorem wo18 : xown 18 = 0 := w18.1
theorem wm18 : xml 18 = 4 := w18.2.1
theorem wr18 : xret 18 = (some .int) := w18.2.2
theorem w19 : xown 19 = 0 ∧ xml 19 = 2 ∧ xret 19 = (some .int) := by decide +kernel
theorem wo19 : xown 19 = 0 := w19.1
theorem wm19 : xml 19 = 2 := w19.2.1
theorem wr19 : xret 19 = (some .int) := w19.2.2
theorem w20 : xown 20 = 0 ∧ xml 20 = 8 ∧ xret 20 = none := by decide +kernel
theorem wo20 : xown 20 = 0 := w20.1
theorem wm20 : xml 20 = 8 := w20.2.1
theorem wr20 : xret 20 = none := w20.2.2
theorem w21 : xown 21 = 0 ∧ xml 21 = 4 ∧ xret 21 = none := by decide +kernel
theorem wo21 : xown 21 = 0 := w21.1
theorem wm21 : xml 21 = 4 := w21.2.1
theorem wr21 : xret 21 = none := w21.2.2
theorem w22 : xown 22 = 0 ∧ xml 22 = 3 ∧ xret 22 = none := by decide +kernel
theorem wo22 : xown 22 = 0 := w22.1
theorem wm22 : xml 22 = 3 := w22.2.1
theorem wr22 : xret 22 = none := w22.2.2
theorem w23 : xown 23 = 0 ∧ xml 23 = 4 ∧ xret 23 = none := by decide +kernel
theorem wo23 : xown 23 = 0 := w23.1
theorem wm23 : xml 23 = 4 := w23.2.1
theorem wr23 : xret 23 = none := w23.2.2
theorem w24 : xown 24 = 0 ∧ xml 24 = 9 ∧ xret 24 = (some .boolean) := by decide +kernel
theorem wo24 : xown 24 = 0 := w24.1
theorem wm24 : xml 24 = 9 := w24.2.1
theorem wr24 : xret 24 = (some .boolean) := w24.2.2
theorem w25 : xown 25 = 0 ∧ xml 25 = 2 ∧ xret 25 = (some .int) := by decide +kernel
theorem wo25 : xown 25 = 0 := w25.1
theorem wm25 : xml 25 = 2 := w25.2.1
theorem wr25 : xret 25 = (some .int) := w25.2.2
theorem w26 : xown 26 = 0 ∧ xml 26 = 1 ∧ xret 26 = (some .int) := by decide +kernel
theorem wo26 : xown 26 = 0 := w26.1
theorem wm26 : xml 26 = 1 := w26.2.1
theorem wr26 : xret 26 = (some .int) := w26.2.2
theorem w27 : xown 27 = 0 ∧ xml 27 = 5 ∧ xret 27 = (some .int) := by decide +kernel
theorem wo27 : xown 27 = 0 := w27.1
theorem wm27 : xml 27 = 5 := w27.2.1
theorem wr27 : xret 27 = (some .int) := w27.2.2
theorem w28 : xown 28 = 0 ∧ xml 28 = 1 ∧ xret 28 = (some (.object "KineticCup$Queue")) := by decide +kernel
theorem wo28 : xown 28 = 0 := w28.1
theorem wm28 : xml 28 = 1 := w28.2.1
theorem wr28 : xret 28 = (some (.object "KineticCup$Queue")) := w28.2.2
theorem w29 : xown 29 = 0 ∧ xml 29 = 6 ∧ xret 29 = (some .int) := by decide +kernel
theorem wo29 : xown 29 = 0 := w29.1
theorem wm29 : xml 29 = 6 := w29.2.1
theorem wr29 : xret 29 = (some .int) := w29.2.2
theorem w30 : xown 30 = 0 ∧ xml 30 = 10 ∧ xret 30 = (some .int) := by decide +kernel
theorem wo30 : xown 30 = 0 := w30.1
theorem wm30 : xml 30 = 10 := w30.2.1
theorem wr30 : xret 30 = (some .int) := w30.2.2
theorem w31 : xown 31 = 0 ∧ xml 31 = 4 ∧ xret 31 = (some .int) := by decide +kernel
theorem wo31 : xown 31 = 0 := w31.1
theorem wm31 : xml 31 = 4 := w31.2.1
theorem wr31 : xret 31 = (some .int) := w31.2.2
theorem w32 : xown 32 = 1 ∧ xml 32 = 1 ∧ xret 32 = none := by decide +kernel
theorem wo32 : xown 32 = 1 := w32.1
theorem wm32 : xml 32 = 1 := w32.2.1
theorem wr32 : xret 32 = none := w32.2.2
theorem wi32 : (xy 32).name = "<init>" := by decide +kernel
theorem w33 : xown 33 = 1 ∧ xml 33 = 3 ∧ xret 33 = none := by decide +kernel
theorem wo33 : xown 33 = 1 := w33.1
theorem wm33 : xml 33 = 3 := w33.2.1
theorem wr33 : xret 33 = none := w33.2.2
theorem w34 : xown 34 = 1 ∧ xml 34 = 3 ∧ xret 34 = (some .boolean) := by decide +kernel
theorem wo34 : xown 34 = 1 := w34.1
theorem wm34 : xml 34 = 3 := w34.2.1
theorem wr34 : xret 34 = (some .boolean) := w34.2.2
theorem w35 : xown 35 = 2 ∧ xml 35 = 1 ∧ xret 35 = none := by decide +kernel
theorem wo35 : xown 35 = 2 := w35.1
theorem wm35 : xml 35 = 1 := w35.2.1
theorem wr35 : xret 35 = none := w35.2.2
theorem wi35 : (xy 35).name = "<init>" := by decide +kernel
theorem w36 : xown 36 = 2 ∧ xml 36 = 2 ∧ xret 36 = (some .boolean) := by decide +kernel
theorem wo36 : xown 36 = 2 := w36.1
theorem wm36 : xml 36 = 2 := w36.2.1
theorem wr36 : xret 36 = (some .boolean) := w36.2.2
theorem w37 : xown 37 = 2 ∧ xml 37 = 1 ∧ xret 37 = (some .int) := by decide +kernel
theorem wo37 : xown 37 = 2 := w37.1
theorem wm37 : xml 37 = 1 := w37.2.1
theorem wr37 : xret 37 = (some .int) := w37.2.2
theorem w38 : xown 38 = 2 ∧ xml 38 = 1 ∧ xret 38 = none := by decide +kernel
theorem wo38 : xown 38 = 2 := w38.1
theorem wm38 : xml 38 = 1 := w38.2.1
theorem wr38 : xret 38 = none := w38.2.2
theorem w39 : xown 39 = 2 ∧ xml 39 = 4 ∧ xret 39 = (some .int) := by decide +kernel
theorem wo39 : xown 39 = 2 := w39.1
theorem wm39 : xml 39 = 4 := w39.2.1
theorem wr39 : xret 39 = (some .int) := w39.2.2
theorem w40 : xown 40 = 2 ∧ xml 40 = 2 ∧ xret 40 = (some .int) := by decide +kernel
theorem wo40 : xown 40 = 2 := w40.1
theorem wm40 : xml 40 = 2 := w40.2.1
theorem wr40 : xret 40 = (some .int) := w40.2.2
theorem w41 : xown 41 = 2 ∧ xml 41 = 2 ∧ xret 41 = (some .int) := by decide +kernel
theorem wo41 : xown 41 = 2 := w41.1
theorem wm41 : xml 41 = 2 := w41.2.1
theorem wr41 : xret 41 = (some .int) := w41.2.2
theorem w42 : xown 42 = 2 ∧ xml 42 = 2 ∧ xret 42 = (some .boolean) := by decide +kernel
theorem wo42 : xown 42 = 2 := w42.1
theorem wm42 : xml 42 = 2 := w42.2.1
theorem wr42 : xret 42 = (some .boolean) := w42.2.2
theorem w43 : xown 43 = 2 ∧ xml 43 = 2 ∧ xret 43 = (some .int) := by decide +kernel
theorem wo43 : xown 43 = 2 := w43.1
theorem wm43 : xml 43 = 2 := w43.2.1
theorem wr43 : xret 43 = (some .int) := w43.2.2
theorem w44 : xown 44 = 2 ∧ xml 44 = 2 ∧ xret 44 = (some .int) := by decide +kernel
theorem wo44 : xown 44 = 2 := w44.1
theorem wm44 : xml 44 = 2 := w44.2.1
theorem wr44 : xret 44 = (some .int) := w44.2.2
theorem w45 : xown 45 = 2 ∧ xml 45 = 2 ∧ xret 45 = (some .int) := by decide +kernel
theorem wo45 : xown 45 = 2 := w45.1
theorem wm45 : xml 45 = 2 := w45.2.1
theorem wr45 : xret 45 = (some .int) := w45.2.2
theorem w46 : xown 46 = 2 ∧ xml 46 = 2 ∧ xret 46 = (some .int) := by decide +kernel
theorem wo46 : xown 46 = 2 := w46.1
theorem wm46 : xml 46 = 2 := w46.2.1
theorem wr46 : xret 46 = (some .int) := w46.2.2
theorem w47 : xown 47 = 3 ∧ xml 47 = 1 ∧ xret 47 = none := by decide +kernel
theorem wo47 : xown 47 = 3 := w47.1
theorem wm47 : xml 47 = 1 := w47.2.1
theorem wr47 : xret 47 = none := w47.2.2
theorem wi47 : (xy 47).name = "<init>" := by decide +kernel
theorem w48 : xown 48 = 3 ∧ xml 48 = 1 ∧ xret 48 = none := by decide +kernel
theorem wo48 : xown 48 = 3 := w48.1
theorem wm48 : xml 48 = 1 := w48.2.1
theorem wr48 : xret 48 = none := w48.2.2
theorem w49 : xown 49 = 3 ∧ xml 49 = 2 ∧ xret 49 = none := by decide +kernel
theorem wo49 : xown 49 = 3 := w49.1
theorem wm49 : xml 49 = 2 := w49.2.1
theorem wr49 : xret 49 = none := w49.2.2
theorem w50 : xown 50 = 3 ∧ xml 50 = 4 ∧ xret 50 = none := by decide +kernel
theorem wo50 : xown 50 = 3 := w50.1
theorem wm50 : xml 50 = 4 := w50.2.1
theorem wr50 : xret 50 = none := w50.2.2
theorem w51 : xown 51 = 3 ∧ xml 51 = 2 ∧ xret 51 = none := by decide +kernel
theorem wo51 : xown 51 = 3 := w51.1
theorem wm51 : xml 51 = 2 := w51.2.1
theorem wr51 : xret 51 = none := w51.2.2
theorem w52 : xown 52 = 3 ∧ xml 52 = 4 ∧ xret 52 = (some .int) := by decide +kernel
theorem wo52 : xown 52 = 3 := w52.1
theorem wm52 : xml 52 = 4 := w52.2.1
theorem wr52 : xret 52 = (some .int) := w52.2.2
theorem w53 : xown 53 = 3 ∧ xml 53 = 3 ∧ xret 53 = (some .boolean) := by decide +kernel
theorem wo53 : xown 53 = 3 := w53.1
theorem wm53 : xml 53 = 3 := w53.2.1
theorem wr53 : xret 53 = (some .boolean) := w53.2.2
theorem w54 : xown 54 = 3 ∧ xml 54 = 2 ∧ xret 54 = (some .int) := by decide +kernel
theorem wo54 : xown 54 = 3 := w54.1
theorem wm54 : xml 54 = 2 := w54.2.1
theorem wr54 : xret 54 = (some .int) := w54.2.2
theorem w55 : xown 55 = 3 ∧ xml 55 = 2 ∧ xret 55 = (some .boolean) := by decide +kernel
theorem wo55 : xown 55 = 3 := w55.1
theorem wm55 : xml 55 = 2 := w55.2.1
theorem wr55 : xret 55 = (some .boolean) := w55.2.2
theorem w56 : xown 56 = 3 ∧ xml 56 = 5 ∧ xret 56 = (some .boolean) := by decide +kernel
theorem wo56 : xown 56 = 3 := w56.1
theorem wm56 : xml 56 = 5 := w56.2.1
theorem wr56 : xret 56 = (some .boolean) := w56.2.2
theorem w57 : xown 57 = 3 ∧ xml 57 = 2 ∧ xret 57 = (some .int) := by decide +kernel
theorem wo57 : xown 57 = 3 := w57.1
theorem wm57 : xml 57 = 2 := w57.2.1
theorem wr57 : xret 57 = (some .int) := w57.2.2
theorem w58 : xown 58 = 3 ∧ xml 58 = 2 ∧ xret 58 = (some .int) := by decide +kernel
theorem wo58 : xown 58 = 3 := w58.1
theorem wm58 : xml 58 = 2 := w58.2.1
theorem wr58 : xret 58 = (some .int) := w58.2.2
theorem w59 : xown 59 = 3 ∧ xml 59 = 3 ∧ xret 59 = none := by decide +kernel
theorem wo59 : xown 59 = 3 := w59.1
theorem wm59 : xml 59 = 3 := w59.2.1
theorem wr59 : xret 59 = none := w59.2.2
theorem w60 : xown 60 = 3 ∧ xml 60 = 1 ∧ xret 60 = (some .int) := by decide +kernel
theorem wo60 : xown 60 = 3 := w60.1
theorem wm60 : xml 60 = 1 := w60.2.1
theorem wr60 : xret 60 = (some .int) := w60.2.2
theorem w61 : xown 61 = 4 ∧ xml 61 = 1 ∧ xret 61 = none := by decide +kernel
theorem wo61 : xown 61 = 4 := w61.1
theorem wm61 : xml 61 = 1 := w61.2.1
theorem wr61 : xret 61 = none := w61.2.2
theorem wi61 : (xy 61).name = "<init>" := by decide +kernel
theorem w62 : xown 62 = 4 ∧ xml 62 = 7 ∧ xret 62 = (some .boolean) := by decide +kernel
theorem wo62 : xown 62 = 4 := w62.1
theorem wm62 : xml 62 = 7 := w62.2.1
theorem wr62 : xret 62 = (some .boolean) := w62.2.2
theorem w63 : xown 63 = 4 ∧ xml 63 = 2 ∧ xret 63 = none := by decide +kernel
theorem wo63 : xown 63 = 4 := w63.1
theorem wm63 : xml 63 = 2 := w63.2.1
theorem wr63 : xret 63 = none := w63.2.2
theorem w64 : xown 64 = 4 ∧ xml 64 = 1 ∧ xret 64 = (some .int) := by decide +kernel
theorem wo64 : xown 64 = 4 := w64.1
theorem wm64 : xml 64 = 1 := w64.2.1
theorem wr64 : xret 64 = (some .int) := w64.2.2
theorem w65 : xown 65 = 4 ∧ xml 65 = 1 ∧ xret 65 = (some .int) := by decide +kernel
theorem wo65 : xown 65 = 4 := w65.1
theorem wm65 : xml 65 = 1 := w65.2.1
theorem wr65 : xret 65 = (some .int) := w65.2.2
theorem w66 : xown 66 = 4 ∧ xml 66 = 1 ∧ xret 66 = (some (.object "KineticCup$Cup")) := by decide +kernel
theorem wo66 : xown 66 = 4 := w66.1
theorem wm66 : xml 66 = 1 := w66.2.1
theorem wr66 : xret 66 = (some (.object "KineticCup$Cup")) := w66.2.2
theorem w67 : xown 67 = 4 ∧ xml 67 = 1 ∧ xret 67 = (some .int) := by decide +kernel
theorem wo67 : xown 67 = 4 := w67.1
theorem wm67 : xml 67 = 1 := w67.2.1
theorem wr67 : xret 67 = (some .int) := w67.2.2
theorem w68 : xown 68 = 4 ∧ xml 68 = 9 ∧ xret 68 = none := by decide +kernel
theorem wo68 : xown 68 = 4 := w68.1
theorem wm68 : xml 68 = 9 := w68.2.1
theorem wr68 : xret 68 = none := w68.2.2
theorem w69 : xown 69 = 5 ∧ xml 69 = 1 ∧ xret 69 = none := by decide +kernel
theorem wo69 : xown 69 = 5 := w69.1
theorem wm69 : xml 69 = 1 := w69.2.1
theorem wr69 : xret 69 = none := w69.2.2
theorem wi69 : (xy 69).name = "<init>" := by decide +kernel
theorem w70 : xown 70 = 5 ∧ xml 70 = 4 ∧ xret 70 = none := by decide +kernel
theorem wo70 : xown 70 = 5 := w70.1
theorem wm70 : xml 70 = 4 := w70.2.1
theorem wr70 : xret 70 = none := w70.2.2
theorem w71 : xown 71 = 5 ∧ xml 71 = 1 ∧ xret 71 = (some .int) := by decide +kernel
theorem wo71 : xown 71 = 5 := w71.1
theorem wm71 : xml 71 = 1 := w71.2.1
theorem wr71 : xret 71 = (some .int) := w71.2.2
theorem w72 : xown 72 = 5 ∧ xml 72 = 2 ∧ xret 72 = (some .int) := by decide +kernel
theorem wo72 : xown 72 = 5 := w72.1
theorem wm72 : xml 72 = 2 := w72.2.1
theorem wr72 : xret 72 = (some .int) := w72.2.2
theorem w73 : xown 73 = 5 ∧ xml 73 = 5 ∧ xret 73 = none := by decide +kernel
theorem wo73 : xown 73 = 5 := w73.1
theorem wm73 : xml 73 = 5 := w73.2.1
theorem wr73 : xret 73 = none := w73.2.2
theorem w74 : xown 74 = 5 ∧ xml 74 = 7 ∧ xret 74 = none := by decide +kernel
theorem wo74 : xown 74 = 5 := w74.1
theorem wm74 : xml 74 = 7 := w74.2.1
theorem wr74 : xret 74 = none := w74.2.2
theorem w75 : xown 75 = 5 ∧ xml 75 = 1 ∧ xret 75 = (some .int) := by decide +kernel
theorem wo75 : xown 75 = 5 := w75.1
theorem wm75 : xml 75 = 1 := w75.2.1
theorem wr75 : xret 75 = (some .int) := w75.2.2
theorem w76 : xown 76 = 5 ∧ xml 76 = 1 ∧ xret 76 = (some .int) := by decide +kernel
theorem wo76 : xown 76 = 5 := w76.1
theorem wm76 : xml 76 = 1 := w76.2.1
theorem wr76 : xret 76 = (some .int) := w76.2.2
theorem w77 : xown 77 = 6 ∧ xml 77 = 1 ∧ xret 77 = none := by decide +kernel
theorem wo77 : xown 77 = 6 := w77.1
theorem wm77 : xml 77 = 1 := w77.2.1
theorem wr77 : xret 77 = none := w77.2.2
theorem wi77 : (xy 77).name = "<init>" := by decide +kernel
theorem w78 : xown 78 = 6 ∧ xml 78 = 4 ∧ xret 78 = (some .boolean) := by decide +kernel
theorem wo78 : xown 78 = 6 := w78.1
theorem wm78 : xml 78 = 4 := w78.2.1
theorem wr78 : xret 78 = (some .boolean) := w78.2.2
theorem w79 : xown 79 = 6 ∧ xml 79 = 1 ∧ xret 79 = (some .int) := by decide +kernel
theorem wo79 : xown 79 = 6 := w79.1
theorem wm79 : xml 79 = 1 := w79.2.1
theorem wr79 : xret 79 = (some .int) := w79.2.2
theorem w80 : xown 80 = 6 ∧ xml 80 = 1 ∧ xret 80 = none := by decide +kernel
theorem wo80 : xown 80 = 6 := w80.1
theorem wm80 : xml 80 = 1 := w80.2.1
theorem wr80 : xret 80 = none := w80.2.2
theorem w81 : xown 81 = 6 ∧ xml 81 = 4 ∧ xret 81 = (some .boolean) := by decide +kernel
theorem wo81 : xown 81 = 6 := w81.1
theorem wm81 : xml 81 = 4 := w81.2.1
theorem wr81 : xret 81 = (some .boolean) := w81.2.2
theorem w82 : xown 82 = 6 ∧ xml 82 = 3 ∧ xret 82 = none := by decide +kernel
theorem wo82 : xown 82 = 6 := w82.1
theorem wm82 : xml 82 = 3 := w82.2.1
theorem wr82 : xret 82 = none := w82.2.2
theorem w83 : xown 83 = 7 ∧ xml 83 = 1 ∧ xret 83 = none := by decide +kernel
theorem wo83 : xown 83 = 7 := w83.1
theorem wm83 : xml 83 = 1 := w83.2.1
theorem wr83 : xret 83 = none := w83.2.2
theorem wi83 : (xy 83).name = "<init>" := by decide +kernel
theorem w84 : xown 84 = 7 ∧ xml 84 = 1 ∧ xret 84 = none := by decide +kernel
theorem wo84 : xown 84 = 7 := w84.1
theorem wm84 : xml 84 = 1 := w84.2.1
theorem wr84 : xret 84 = none := w84.2.2
theorem w85 : xown 85 = 7 ∧ xml 85 = 4 ∧ xret 85 = none := by decide +kernel
theorem wo85 : xown 85 = 7 := w85.1
theorem wm85 : xml 85 = 4 := w85.2.1
theorem wr85 : xret 85 = none := w85.2.2
theorem w86 : xown 86 = 8 ∧ xml 86 = 2 ∧ xret 86 = none := by decide +kernel
theorem wo86 : xown 86 = 8 := w86.1
theorem wm86 : xml 86 = 2 := w86.2.1
theorem wr86 : xret 86 = none := w86.2.2
theorem wi86 : (xy 86).name = "<init>" := by decide +kernel
theorem w87 : xown 87 = 8 ∧ xml 87 = 1 ∧ xret 87 = (some .boolean) := by decide +kernel
theorem wo87 : xown 87 = 8 := w87.1
theorem wm87 : xml 87 = 1 := w87.2.1
theorem wr87 : xret 87 = (some .boolean) := w87.2.2
theorem w88 : xown 88 = 8 ∧ xml 88 = 1 ∧ xret 88 = (some .boolean) := by decide +kernel
theorem wo88 : xown 88 = 8 := w88.1
theorem wm88 : xml 88 = 1 := w88.2.1
theorem wr88 : xret 88 = (some .boolean) := w88.2.2
theorem w89 : xown 89 = 8 ∧ xml 89 = 6 ∧ xret 89 = (some .int) := by decide +kernel
theorem wo89 : xown 89 = 8 := w89.1
theorem wm89 : xml 89 = 6 := w89.2.1
theorem wr89 : xret 89 = (some .int) := w89.2.2
theorem w90 : xown 90 = 8 ∧ xml 90 = 2 ∧ xret 90 = (some .boolean) := by decide +kernel
theorem wo90 : xown 90 = 8 := w90.1
theorem wm90 : xml 90 = 2 := w90.2.1
theorem wr90 : xret 90 = (some .boolean) := w90.2.2
theorem w91 : xown 91 = 8 ∧ xml 91 = 2 ∧ xret 91 = (some .int) := by decide +kernel
theorem wo91 : xown 91 = 8 := w91.1
theorem wm91 : xml 91 = 2 := w91.2.1
theorem wr91 : xret 91 = (some .int) := w91.2.2
theorem w92 : xown 92 = 8 ∧ xml 92 = 2 ∧ xret 92 = (some .int) := by decide +kernel
theorem wo92 : xown 92 = 8 := w92.1
theorem wm92 : xml 92 = 2 := w92.2.1
theorem wr92 : xret 92 = (some .int) := w92.2.2
theorem w93 : xown 93 = 8 ∧ xml 93 = 1 ∧ xret 93 = (some .int) := by decide +kernel
theorem wo93 : xown 93 = 8 := w93.1
theorem wm93 : xml 93 = 1 := w93.2.1
theorem wr93 : xret 93 = (some .int) := w93.2.2
theorem w94 : xown 94 = 8 ∧ xml 94 = 2 ∧ xret 94 = (some .int) := by decide +kernel
theorem wo94 : xown 94 = 8 := w94.1
theorem wm94 : xml 94 = 2 := w94.2.1
theorem wr94 : xret 94 = (some .int) := w94.2.2
theorem w95 : xown 95 = 8 ∧ xml 95 = 1 ∧ xret 95 = (some .int) := by decide +kernel
theorem wo95 : xown 95 = 8 := w95.1
theorem wm95 : xml 95 = 1 := w95.2.1
theorem wr95 : xret 95 = (some .int) := w95.2.2
theorem w96 : xown 96 = 8 ∧ xml 96 = 4 ∧ xret 96 = (some .int) := by decide +kernel
theorem wo96 : xown 96 = 8 := w96.1
theorem wm96 : xml 96 = 4 := w96.2.1
theorem wr96 : xret 96 = (some .int) := w96.2.2
theorem w97 : xown 97 = 8 ∧ xml 97 = 2 ∧ xret 97 = (some .int) := by decide +kernel
theorem wo97 : xown 97 = 8 := w97.1
theorem wm97 : xml 97 = 2 := w97.2.1
theorem wr97 : xret 97 = (some .int) := w97.2.2
theorem w98 : xown 98 = 8 ∧ xml 98 = 4 ∧ xret 98 = (some .int) := by decide +kernel
theorem wo98 : xown 98 = 8 := w98.1
theorem wm98 : xml 98 = 4 := w98.2.1
theorem wr98 : xret 98 = (some .int) := w98.2.2
theorem w99 : xown 99 = 8 ∧ xml 99 = 3 ∧ xret 99 = (some .int) := by decide +kernel
theorem wo99 : xown 99 = 8 := w99.1
theorem wm99 : xml 99 = 3 := w99.2.1
theorem wr99 : xret 99 = (some .int) := w99.2.2
theorem w100 : xown 100 = 8 ∧ xml 100 = 2 ∧ xret 100 = (some .boolean) := by decide +kernel
theorem wo100 : xown 100 = 8 := w100.1
theorem wm100 : xml 100 = 2 := w100.2.1
theorem wr100 : xret 100 = (some .boolean) := w100.2.2
theorem w101 : xown 101 = 8 ∧ xml 101 = 4 ∧ xret 101 = (some .long) := by decide +kernel
theorem wo101 : xown 101 = 8 := w101.1
theorem wm101 : xml 101 = 4 := w101.2.1
theorem wr101 : xret 101 = (some .long) := w101.2.2
theorem w102 : xown 102 = 8 ∧ xml 102 = 1 ∧ xret 102 = (some .boolean) := by decide +kernel
theorem wo102 : xown 102 = 8 := w102.1
theorem wm102 : xml 102 = 1 := w102.2.1
theorem wr102 : xret 102 = (some .boolean) := w102.2.2
theorem w103 : xown 103 = 8 ∧ xml 103 = 7 ∧ xret 103 = (some .long) := by decide +kernel
theorem wo103 : xown 103 = 8 := w103.1
theorem wm103 : xml 103 = 7 := w103.2.1
theorem wr103 : xret 103 = (some .long) := w103.2.2
theorem w104 : xown 104 = 8 ∧ xml 104 = 2 ∧ xret 104 = (some .int) := by decide +kernel
theorem wo104 : xown 104 = 8 := w104.1
theorem wm104 : xml 104 = 2 := w104.2.1
theorem wr104 : xret 104 = (some .int) := w104.2.2
theorem w105 : xown 105 = 8 ∧ xml 105 = 3 ∧ xret 105 = (some .int) := by decide +kernel
theorem wo105 : xown 105 = 8 := w105.1
theorem wm105 : xml 105 = 3 := w105.2.1
theorem wr105 : xret 105 = (some .int) := w105.2.2
theorem w106 : xown 106 = 8 ∧ xml 106 = 5 ∧ xret 106 = (some .long) := by decide +kernel
theorem wo106 : xown 106 = 8 := w106.1
theorem wm106 : xml 106 = 5 := w106.2.1
theorem wr106 : xret 106 = (some .long) := w106.2.2
theorem w107 : xown 107 = 8 ∧ xml 107 = 6 ∧ xret 107 = (some .long) := by decide +kernel
theorem wo107 : xown 107 = 8 := w107.1
theorem wm107 : xml 107 = 6 := w107.2.1
theorem wr107 : xret 107 = (some .long) := w107.2.2
theorem w108 : xown 108 = 8 ∧ xml 108 = 9 ∧ xret 108 = (some .long) := by decide +kernel
theorem wo108 : xown 108 = 8 := w108.1
theorem wm108 : xml 108 = 9 := w108.2.1
theorem wr108 : xret 108 = (some .long) := w108.2.2
theorem w109 : xown 109 = 8 ∧ xml 109 = 4 ∧ xret 109 = (some .int) := by decide +kernel
theorem wo109 : xown 109 = 8 := w109.1
theorem wm109 : xml 109 = 4 := w109.2.1
theorem wr109 : xret 109 = (some .int) := w109.2.2
theorem w110 : xown 110 = 8 ∧ xml 110 = 2 ∧ xret 110 = (some .int) := by decide +kernel
theorem wo110 : xown 110 = 8 := w110.1
theorem wm110 : xml 110 = 2 := w110.2.1
theorem wr110 : xret 110 = (some .int) := w110.2.2
theorem w111 : xown 111 = 8 ∧ xml 111 = 2 ∧ xret 111 = (some .int) := by decide +kernel
theorem wo111 : xown 111 = 8 := w111.1
theorem wm111 : xml 111 = 2 := w111.2.1
theorem wr111 : xret 111 = (some .int) := w111.2.2
theorem w112 : xown 112 = 8 ∧ xml 112 = 2 ∧ xret 112 = (some .int) := by decide +kernel
theorem wo112 : xown 112 = 8 := w112.1
theorem wm112 : xml 112 = 2 := w112.2.1
theorem wr112 : xret 112 = (some .int) := w112.2.2
theorem w113 : xown 113 = 8 ∧ xml 113 = 6 ∧ xret 113 = (some .long) := by decide +kernel
theorem wo113 : xown 113 = 8 := w113.1
theorem wm113 : xml 113 = 6 := w113.2.1
theorem wr113 : xret 113 = (some .long) := w113.2.2
theorem w114 : xown 114 = 8 ∧ xml 114 = 5 ∧ xret 114 = (some .int) := by decide +kernel
theorem wo114 : xown 114 = 8 := w114.1
theorem wm114 : xml 114 = 5 := w114.2.1
theorem wr114 : xret 114 = (some .int) := w114.2.2
theorem w115 : xown 115 = 8 ∧ xml 115 = 2 ∧ xret 115 = (some .int) := by decide +kernel
theorem wo115 : xown 115 = 8 := w115.1
theorem wm115 : xml 115 = 2 := w115.2.1
theorem wr115 : xret 115 = (some .int) := w115.2.2
theorem w116 : xown 116 = 8 ∧ xml 116 = 2 ∧ xret 116 = (some .int) := by decide +kernel
theorem wo116 : xown 116 = 8 := w116.1
theorem wm116 : xml 116 = 2 := w116.2.1
theorem wr116 : xret 116 = (some .int) := w116.2.2
theorem w117 : xown 117 = 8 ∧ xml 117 = 2 ∧ xret 117 = (some .int) := by decide +kernel
theorem wo117 : xown 117 = 8 := w117.1
theorem wm117 : xml 117 = 2 := w117.2.1
theorem wr117 : xret 117 = (some .int) := w117.2.2
theorem w118 : xown 118 = 8 ∧ xml 118 = 2 ∧ xret 118 = (some .int) := by decide +kernel
theorem wo118 : xown 118 = 8 := w118.1
theorem wm118 : xml 118 = 2 := w118.2.1
theorem wr118 : xret 118 = (some .int) := w118.2.2
theorem w119 : xown 119 = 8 ∧ xml 119 = 3 ∧ xret 119 = (some .int) := by decide +kernel
theorem wo119 : xown 119 = 8 := w119.1
theorem wm119 : xml 119 = 3 := w119.2.1
theorem wr119 : xret 119 = (some .int) := w119.2.2
theorem w120 : xown 120 = 9 ∧ xml 120 = 2 ∧ xret 120 = none := by decide +kernel
theorem wo120 : xown 120 = 9 := w120.1
theorem wm120 : xml 120 = 2 := w120.2.1
theorem wr120 : xret 120 = none := w120.2.2
theorem wi120 : (xy 120).name = "<init>" := by decide +kernel
theorem w121 : xown 121 = 9 ∧ xml 121 = 2 ∧ xret 121 = none := by decide +kernel
theorem wo121 : xown 121 = 9 := w121.1
theorem wm121 : xml 121 = 2 := w121.2.1
theorem wr121 : xret 121 = none := w121.2.2
theorem w122 : xown 122 = 9 ∧ xml 122 = 3 ∧ xret 122 = (some .int) := by decide +kernel
theorem wo122 : xown 122 = 9 := w122.1
theorem wm122 : xml 122 = 3 := w122.2.1
theorem wr122 : xret 122 = (some .int) := w122.2.2
theorem w123 : xown 123 = 9 ∧ xml 123 = 3 ∧ xret 123 = (some .int) := by decide +kernel
theorem wo123 : xown 123 = 9 := w123.1
theorem wm123 : xml 123 = 3 := w123.2.1
theorem wr123 : xret 123 = (some .int) := w123.2.2
theorem w124 : xown 124 = 9 ∧ xml 124 = 5 ∧ xret 124 = (some .int) := by decide +kernel
theorem wo124 : xown 124 = 9 := w124.1
theorem wm124 : xml 124 = 5 := w124.2.1
theorem wr124 : xret 124 = (some .int) := w124.2.2
theorem w125 : xown 125 = 9 ∧ xml 125 = 6 ∧ xret 125 = (some .boolean) := by decide +kernel
theorem wo125 : xown 125 = 9 := w125.1
theorem wm125 : xml 125 = 6 := w125.2.1
theorem wr125 : xret 125 = (some .boolean) := w125.2.2
theorem w126 : xown 126 = 9 ∧ xml 126 = 8 ∧ xret 126 = none := by decide +kernel
theorem wo126 : xown 126 = 9 := w126.1
theorem wm126 : xml 126 = 8 := w126.2.1
theorem wr126 : xret 126 = none := w126.2.2
theorem w127 : xown 127 = 9 ∧ xml 127 = 2 ∧ xret 127 = none := by decide +kernel
theorem wo127 : xown 127 = 9 := w127.1
theorem wm127 : xml 127 = 2 := w127.2.1
theorem wr127 : xret 127 = none := w127.2.2
theorem w128 : xown 128 = 9 ∧ xml 128 = 6 ∧ xret 128 = (some .int) := by decide +kernel
theorem wo128 : xown 128 = 9 := w128.1
theorem wm128 : xml 128 = 6 := w128.2.1
theorem wr128 : xret 128 = (some .int) := w128.2.2
theorem w129 : xown 129 = 9 ∧ xml 129 = 1 ∧ xret 129 = (some .boolean) := by decide +kernel
theorem wo129 : xown 129 = 9 := w129.1
theorem wm129 : xml 129 = 1 := w129.2.1
theorem wr129 : xret 129 = (some .boolean) := w129.2.2
theorem w130 : xown 130 = 9 ∧ xml 130 = 3 ∧ xret 130 = (some .boolean) := by decide +kernel
theorem wo130 : xown 130 = 9 := w130.1
theorem wm130 : xml 130 = 3 := w130.2.1
theorem wr130 : xret 130 = (some .boolean) := w130.2.2
theorem w131 : xown 131 = 9 ∧ xml 131 = 2 ∧ xret 131 = none := by decide +kernel
theorem wo131 : xown 131 = 9 := w131.1
theorem wm131 : xml 131 = 2 := w131.2.1
theorem wr131 : xret 131 = none := w131.2.2
theorem w132 : xown 132 = 9 ∧ xml 132 = 2 ∧ xret 132 = (some .int) := by decide +kernel
theorem wo132 : xown 132 = 9 := w132.1
theorem wm132 : xml 132 = 2 := w132.2.1
theorem wr132 : xret 132 = (some .int) := w132.2.2
theorem w133 : xown 133 = 9 ∧ xml 133 = 2 ∧ xret 133 = (some .int) := by decide +kernel
theorem wo133 : xown 133 = 9 := w133.1
theorem wm133 : xml 133 = 2 := w133.2.1
theorem wr133 : xret 133 = (some .int) := w133.2.2
theorem w134 : xown 134 = 9 ∧ xml 134 = 1 ∧ xret 134 = (some .int) := by decide +kernel
theorem wo134 : xown 134 = 9 := w134.1
theorem wm134 : xml 134 = 1 := w134.2.1
theorem wr134 : xret 134 = (some .int) := w134.2.2
theorem w135 : xown 135 = 9 ∧ xml 135 = 3 ∧ xret 135 = (some .int) := by decide +kernel
theorem wo135 : xown 135 = 9 := w135.1
theorem wm135 : xml 135 = 3 := w135.2.1
theorem wr135 : xret 135 = (some .int) := w135.2.2
theorem w136 : xown 136 = 9 ∧ xml 136 = 3 ∧ xret 136 = (some .int) := by decide +kernel
theorem wo136 : xown 136 = 9 := w136.1
theorem wm136 : xml 136 = 3 := w136.2.1
theorem wr136 : xret 136 = (some .int) := w136.2.2
theorem w137 : xown 137 = 9 ∧ xml 137 = 3 ∧ xret 137 = (some .int) := by decide +kernel
theorem wo137 : xown 137 = 9 := w137.1
theorem wm137 : xml 137 = 3 := w137.2.1
theorem wr137 : xret 137 = (some .int) := w137.2.2
theorem w138 : xown 138 = 9 ∧ xml 138 = 2 ∧ xret 138 = (some .int) := by decide +kernel
theorem wo138 : xown 138 = 9 := w138.1
theorem wm138 : xml 138 = 2 := w138.2.1
theorem wr138 : xret 138 = (some .int) := w138.2.2
theorem w139 : xown 139 = 9 ∧ xml 139 = 3 ∧ xret 139 = (some .int) := by decide +kernel
theorem wo139 : xown 139 = 9 := w139.1
theorem wm139 : xml 139 = 3 := w139.2.1
theorem wr139 : xret 139 = (some .int) := w139.2.2
theorem w140 : xown 140 = 9 ∧ xml 140 = 3 ∧ xret 140 = (some .int) := by decide +kernel
theorem wo140 : xown 140 = 9 := w140.1
theorem wm140 : xml 140 = 3 := w140.2.1
theorem wr140 : xret 140 = (some .int) := w140.2.2
theorem w141 : xown 141 = 9 ∧ xml 141 = 6 ∧ xret 141 = (some .int) := by decide +kernel
theorem wo141 : xown 141 = 9 := w141.1
theorem wm141 : xml 141 = 6 := w141.2.1
theorem wr141 : xret 141 = (some .int) := w141.2.2
theorem w142 : xown 142 = 9 ∧ xml 142 = 14 ∧ xret 142 = none := by decide +kernel
theorem wo142 : xown 142 = 9 := w142.1
theorem wm142 : xml 142 = 14 := w142.2.1
theorem wr142 : xret 142 = none := w142.2.2
theorem w143 : xown 143 = 9 ∧ xml 143 = 3 ∧ xret 143 = (some .int) := by decide +kernel
theorem wo143 : xown 143 = 9 := w143.1
theorem wm143 : xml 143 = 3 := w143.2.1
theorem wr143 : xret 143 = (some .int) := w143.2.2
theorem w144 : xown 144 = 9 ∧ xml 144 = 3 ∧ xret 144 = (some .int) := by decide +kernel
theorem wo144 : xown 144 = 9 := w144.1
theorem wm144 : xml 144 = 3 := w144.2.1
theorem wr144 : xret 144 = (some .int) := w144.2.2
theorem w145 : xown 145 = 9 ∧ xml 145 = 5 ∧ xret 145 = (some .int) := by decide +kernel
theorem wo145 : xown 145 = 9 := w145.1
theorem wm145 : xml 145 = 5 := w145.2.1
theorem wr145 : xret 145 = (some .int) := w145.2.2
theorem w146 : xown 146 = 9 ∧ xml 146 = 1 ∧ xret 146 = (some .int) := by decide +kernel
theorem wo146 : xown 146 = 9 := w146.1
theorem wm146 : xml 146 = 1 := w146.2.1
theorem wr146 : xret 146 = (some .int) := w146.2.2
theorem w147 : xown 147 = 9 ∧ xml 147 = 1 ∧ xret 147 = (some .int) := by decide +kernel
theorem wo147 : xown 147 = 9 := w147.1
theorem wm147 : xml 147 = 1 := w147.2.1
theorem wr147 : xret 147 = (some .int) := w147.2.2
theorem w148 : xown 148 = 9 ∧ xml 148 = 3 ∧ xret 148 = (some .int) := by decide +kernel
theorem wo148 : xown 148 = 9 := w148.1
theorem wm148 : xml 148 = 3 := w148.2.1
theorem wr148 : xret 148 = (some .int) := w148.2.2
theorem w149 : xown 149 = 9 ∧ xml 149 = 2 ∧ xret 149 = (some .int) := by decide +kernel
theorem wo149 : xown 149 = 9 := w149.1
theorem wm149 : xml 149 = 2 := w149.2.1
theorem wr149 : xret 149 = (some .int) := w149.2.2
theorem w150 : xown 150 = 9 ∧ xml 150 = 2 ∧ xret 150 = (some .int) := by decide +kernel
theorem wo150 : xown 150 = 9 := w150.1
theorem wm150 : xml 150 = 2 := w150.2.1
theorem wr150 : xret 150 = (some .int) := w150.2.2
theorem w151 : xown 151 = 9 ∧ xml 151 = 3 ∧ xret 151 = (some .int) := by decide +kernel
theorem wo151 : xown 151 = 9 := w151.1
theorem wm151 : xml 151 = 3 := w151.2.1
theorem wr151 : xret 151 = (some .int) := w151.2.2
theorem w152 : xown 152 = 9 ∧ xml 152 = 2 ∧ xret 152 = (some .boolean) := by decide +kernel
theorem wo152 : xown 152 = 9 := w152.1
theorem wm152 : xml 152 = 2 := w152.2.1
theorem wr152 : xret 152 = (some .boolean) := w152.2.2
theorem w153 : xown 153 = 9 ∧ xml 153 = 6 ∧ xret 153 = (some .int) := by decide +kernel
theorem wo153 : xown 153 = 9 := w153.1
theorem wm153 : xml 153 = 6 := w153.2.1
theorem wr153 : xret 153 = (some .int) := w153.2.2
theorem w154 : xown 154 = 9 ∧ xml 154 = 4 ∧ xret 154 = (some .boolean) := by decide +kernel
theorem wo154 : xown 154 = 9 := w154.1
theorem wm154 : xml 154 = 4 := w154.2.1
theorem wr154 : xret 154 = (some .boolean) := w154.2.2
theorem w155 : xown 155 = 9 ∧ xml 155 = 2 ∧ xret 155 = (some .long) := by decide +kernel
theorem wo155 : xown 155 = 9 := w155.1
theorem wm155 : xml 155 = 2 := w155.2.1
theorem wr155 : xret 155 = (some .long) := w155.2.2
theorem w156 : xown 156 = 9 ∧ xml 156 = 3 ∧ xret 156 = (some .int) := by decide +kernel
theorem wo156 : xown 156 = 9 := w156.1
theorem wm156 : xml 156 = 3 := w156.2.1
theorem wr156 : xret 156 = (some .int) := w156.2.2
theorem w157 : xown 157 = 9 ∧ xml 157 = 8 ∧ xret 157 = (some .boolean) := by decide +kernel
theorem wo157 : xown 157 = 9 := w157.1
theorem wm157 : xml 157 = 8 := w157.2.1
theorem wr157 : xret 157 = (some .boolean) := w157.2.2
theorem w158 : xown 158 = 9 ∧ xml 158 = 11 ∧ xret 158 = (some .long) := by decide +kernel
theorem wo158 : xown 158 = 9 := w158.1
theorem wm158 : xml 158 = 11 := w158.2.1
theorem wr158 : xret 158 = (some .long) := w158.2.2
theorem w159 : xown 159 = 9 ∧ xml 159 = 1 ∧ xret 159 = (some .int) := by decide +kernel
theorem wo159 : xown 159 = 9 := w159.1
theorem wm159 : xml 159 = 1 := w159.2.1
theorem wr159 : xret 159 = (some .int) := w159.2.2
theorem w160 : xown 160 = 9 ∧ xml 160 = 6 ∧ xret 160 = (some .int) := by decide +kernel
theorem wo160 : xown 160 = 9 := w160.1
theorem wm160 : xml 160 = 6 := w160.2.1
theorem wr160 : xret 160 = (some .int) := w160.2.2
theorem w161 : xown 161 = 9 ∧ xml 161 = 5 ∧ xret 161 = (some .long) := by decide +kernel
theorem wo161 : xown 161 = 9 := w161.1
theorem wm161 : xml 161 = 5 := w161.2.1
theorem wr161 : xret 161 = (some .long) := w161.2.2
theorem w162 : xown 162 = 9 ∧ xml 162 = 9 ∧ xret 162 = (some .long) := by decide +kernel
theorem wo162 : xown 162 = 9 := w162.1
theorem wm162 : xml 162 = 9 := w162.2.1
theorem wr162 : xret 162 = (some .long) := w162.2.2
theorem w163 : xown 163 = 9 ∧ xml 163 = 13 ∧ xret 163 = (some .long) := by decide +kernel
theorem wo163 : xown 163 = 9 := w163.1
theorem wm163 : xml 163 = 13 := w163.2.1
theorem wr163 : xret 163 = (some .long) := w163.2.2
theorem w164 : xown 164 = 9 ∧ xml 164 = 12 ∧ xret 164 = (some .long) := by decide +kernel
theorem wo164 : xown 164 = 9 := w164.1
theorem wm164 : xml 164 = 12 := w164.2.1
theorem wr164 : xret 164 = (some .long) := w164.2.2
theorem w165 : xown 165 = 9 ∧ xml 165 = 13 ∧ xret 165 = (some .long) := by decide +kernel
theorem wo165 : xown 165 = 9 := w165.1
theorem wm165 : xml 165 = 13 := w165.2.1
theorem wr165 : xret 165 = (some .long) := w165.2.2
theorem w166 : xown 166 = 9 ∧ xml 166 = 3 ∧ xret 166 = (some .int) := by decide +kernel
theorem wo166 : xown 166 = 9 := w166.1
theorem wm166 : xml 166 = 3 := w166.2.1
theorem wr166 : xret 166 = (some .int) := w166.2.2
theorem w167 : xown 167 = 9 ∧ xml 167 = 9 ∧ xret 167 = (some .long) := by decide +kernel
theorem wo167 : xown 167 = 9 := w167.1
theorem wm167 : xml 167 = 9 := w167.2.1
theorem wr167 : xret 167 = (some .long) := w167.2.2
theorem w168 : xown 168 = 9 ∧ xml 168 = 2 ∧ xret 168 = (some .long) := by decide +kernel
theorem wo168 : xown 168 = 9 := w168.1
theorem wm168 : xml 168 = 2 := w168.2.1
theorem wr168 : xret 168 = (some .long) := w168.2.2
theorem w169 : xown 169 = 9 ∧ xml 169 = 9 ∧ xret 169 = (some .long) := by decide +kernel
theorem wo169 : xown 169 = 9 := w169.1
theorem wm169 : xml 169 = 9 := w169.2.1
theorem wr169 : xret 169 = (some .long) := w169.2.2
theorem w170 : xown 170 = 9 ∧ xml 170 = 4 ∧ xret 170 = (some .int) := by decide +kernel
theorem wo170 : xown 170 = 9 := w170.1
theorem wm170 : xml 170 = 4 := w170.2.1
theorem wr170 : xret 170 = (some .int) := w170.2.2
theorem w171 : xown 171 = 9 ∧ xml 171 = 2 ∧ xret 171 = (some .int) := by decide +kernel
theorem wo171 : xown 171 = 9 := w171.1
theorem wm171 : xml 171 = 2 := w171.2.1
theorem wr171 : xret 171 = (some .int) := w171.2.2
theorem w172 : xown 172 = 9 ∧ xml 172 = 4 ∧ xret 172 = (some .int) := by decide +kernel
theorem wo172 : xown 172 = 9 := w172.1
theorem wm172 : xml 172 = 4 := w172.2.1
theorem wr172 : xret 172 = (some .int) := w172.2.2
theorem w173 : xown 173 = 9 ∧ xml 173 = 4 ∧ xret 173 = (some .boolean) := by decide +kernel
theorem wo173 : xown 173 = 9 := w173.1
theorem wm173 : xml 173 = 4 := w173.2.1
theorem wr173 : xret 173 = (some .boolean) := w173.2.2
theorem w174 : xown 174 = 9 ∧ xml 174 = 3 ∧ xret 174 = (some .boolean) := by decide +kernel
theorem wo174 : xown 174 = 9 := w174.1
theorem wm174 : xml 174 = 3 := w174.2.1
theorem wr174 : xret 174 = (some .boolean) := w174.2.2
theorem w175 : xown 175 = 9 ∧ xml 175 = 9 ∧ xret 175 = (some .int) := by decide +kernel
theorem wo175 : xown 175 = 9 := w175.1
theorem wm175 : xml 175 = 9 := w175.2.1
theorem wr175 : xret 175 = (some .int) := w175.2.2
theorem w176 : xown 176 = 9 ∧ xml 176 = 6 ∧ xret 176 = (some .long) := by decide +kernel
theorem wo176 : xown 176 = 9 := w176.1
theorem wm176 : xml 176 = 6 := w176.2.1
theorem wr176 : xret 176 = (some .long) := w176.2.2
theorem w177 : xown 177 = 9 ∧ xml 177 = 7 ∧ xret 177 = (some .int) := by decide +kernel
theorem wo177 : xown 177 = 9 := w177.1
theorem wm177 : xml 177 = 7 := w177.2.1
theorem wr177 : xret 177 = (some .int) := w177.2.2
theorem w178 : xown 178 = 9 ∧ xml 178 = 4 ∧ xret 178 = (some .int) := by decide +kernel
theorem wo178 : xown 178 = 9 := w178.1
theorem wm178 : xml 178 = 4 := w178.2.1
theorem wr178 : xret 178 = (some .int) := w178.2.2
theorem w179 : xown 179 = 9 ∧ xml 179 = 4 ∧ xret 179 = (some .int) := by decide +kernel
theorem wo179 : xown 179 = 9 := w179.1
theorem wm179 : xml 179 = 4 := w179.2.1
theorem wr179 : xret 179 = (some .int) := w179.2.2
theorem w180 : xown 180 = 9 ∧ xml 180 = 4 ∧ xret 180 = (some .int) := by decide +kernel
theorem wo180 : xown 180 = 9 := w180.1
theorem wm180 : xml 180 = 4 := w180.2.1
theorem wr180 : xret 180 = (some .int) := w180.2.2
theorem w181 : xown 181 = 10 ∧ xml 181 = 5 ∧ xret 181 = (some .long) := by decide +kernel
theorem wo181 : xown 181 = 10 := w181.1
theorem wm181 : xml 181 = 5 := w181.2.1
theorem wr181 : xret 181 = (some .long) := w181.2.2
theorem w182 : xown 182 = 10 ∧ xml 182 = 13 ∧ xret 182 = (some .long) := by decide +kernel
theorem wo182 : xown 182 = 10 := w182.1
theorem wm182 : xml 182 = 13 := w182.2.1
theorem wr182 : xret 182 = (some .long) := w182.2.2
theorem w183 : xown 183 = 10 ∧ xml 183 = 6 ∧ xret 183 = (some .int) := by decide +kernel
theorem wo183 : xown 183 = 10 := w183.1
theorem wm183 : xml 183 = 6 := w183.2.1
theorem wr183 : xret 183 = (some .int) := w183.2.2
theorem w184 : xown 184 = 10 ∧ xml 184 = 9 ∧ xret 184 = (some .long) := by decide +kernel
theorem wo184 : xown 184 = 10 := w184.1
theorem wm184 : xml 184 = 9 := w184.2.1
theorem wr184 : xret 184 = (some .long) := w184.2.2
theorem w185 : xown 185 = 10 ∧ xml 185 = 6 ∧ xret 185 = (some .long) := by decide +kernel
theorem wo185 : xown 185 = 10 := w185.1
theorem wm185 : xml 185 = 6 := w185.2.1
theorem wr185 : xret 185 = (some .long) := w185.2.2
theorem w186 : xown 186 = 10 ∧ xml 186 = 11 ∧ xret 186 = (some .long) := by decide +kernel
theorem wo186 : xown 186 = 10 := w186.1
theorem wm186 : xml 186 = 11 := w186.2.1
theorem wr186 : xret 186 = (some .long) := w186.2.2
theorem w187 : xown 187 = 13 ∧ xml 187 = 4 ∧ xret 187 = none := by decide +kernel
theorem wo187 : xown 187 = 13 := w187.1
theorem wm187 : xml 187 = 4 := w187.2.1
theorem wr187 : xret 187 = none := w187.2.2
theorem f0_9 : xfld 0 9 = some (0, 0, false, false, 185) := by decide +kernel
theorem f0_15 : xfld 0 15 = some (0, 1, false, false, 186) := by decide +kernel
theorem f0_18 : xfld 0 18 = some (0, 2, false, false, 187) := by decide +kernel
theorem f0_21 : xfld 0 21 = some (0, 3, false, false, 188) := by decide +kernel
theorem f0_24 : xfld 0 24 = some (0, 4, false, false, 189) := by decide +kernel
theorem f0_28 : xfld 0 28 = some (0, 5, false, false, 190) := by decide +kernel
theorem f0_34 : xfld 0 34 = some (0, 6, false, false, 191) := by decide +kernel
theorem f0_41 : xfld 0 41 = some (0, 7, false, false, 192) := by decide +kernel
theorem f0_45 : xfld 0 45 = some (0, 8, false, true, 193) := by decide +kernel
theorem f1_10 : xfld 1 10 = some (1, 0, false, false, 299) := by decide +kernel
theorem f1_19 : xfld 1 19 = some (1, 1, false, false, 300) := by decide +kernel
theorem f1_23 : xfld 1 23 = some (1, 2, false, true, 301) := by decide +kernel
theorem f2_11 : xfld 2 11 = some (2, 0, false, false, 219) := by decide +kernel
theorem f2_15 : xfld 2 15 = some (2, 1, false, true, 220) := by decide +kernel
theorem f3_11 : xfld 3 11 = some (3, 0, false, false, 84) := by decide +kernel
theorem f3_15 : xfld 3 15 = some (3, 1, false, false, 85) := by decide +kernel
theorem f3_18 : xfld 3 18 = some (3, 2, false, false, 86) := by decide +kernel
theorem f3_21 : xfld 3 21 = some (3, 3, false, false, 87) := by decide +kernel
theorem f3_24 : xfld 3 24 = some (3, 4, false, false, 88) := by decide +kernel
theorem f3_27 : xfld 3 27 = some (3, 5, false, true, 89) := by decide +kernel
theorem f3_31 : xfld 3 31 = some (3, 6, false, true, 90) := by decide +kernel
theorem f4_12 : xfld 4 12 = some (4, 0, false, false, 253) := by decide +kernel
theorem f4_18 : xfld 4 18 = some (4, 1, false, true, 254) := by decide +kernel
theorem f4_22 : xfld 4 22 = some (4, 2, false, true, 255) := by decide +kernel
theorem f4_25 : xfld 4 25 = some (4, 3, false, true, 256) := by decide +kernel
theorem f5_11 : xfld 5 11 = some (5, 0, false, false, 272) := by decide +kernel
theorem f5_17 : xfld 5 17 = some (5, 1, false, false, 273) := by decide +kernel
theorem f5_20 : xfld 5 20 = some (5, 2, false, true, 274) := by decide +kernel
theorem f5_24 : xfld 5 24 = some (5, 3, false, true, 275) := by decide +kernel
theorem f5_27 : xfld 5 27 = some (5, 4, false, true, 276) := by decide +kernel
theorem f6_9 : xfld 6 9 = some (6, 0, false, false, 232) := by decide +kernel
theorem f6_13 : xfld 6 13 = some (6, 1, false, false, 233) := by decide +kernel
theorem f6_16 : xfld 6 16 = some (6, 2, false, false, 234) := by decide +kernel
theorem f6_20 : xfld 6 20 = some (6, 3, false, true, 235) := by decide +kernel
theorem f7_9 : xfld 7 9 = some (7, 0, false, true, 114) := by decide +kernel
theorem f7_15 : xfld 7 15 = some (7, 1, false, true, 116) := by decide +kernel
theorem f7_18 : xfld 7 18 = some (7, 2, false, true, 118) := by decide +kernel
theorem f7_21 : xfld 7 21 = some (7, 3, false, true, 120) := by decide +kernel
theorem f7_24 : xfld 7 24 = some (7, 4, false, true, 122) := by decide +kernel
theorem f8_10 : xfld 8 10 = some (8, 0, false, false, 309) := by decide +kernel
theorem f8_19 : xfld 8 19 = some (8, 1, false, false, 310) := by decide +kernel
theorem f8_26 : xfld 8 26 = some (8, 2, false, false, 311) := by decide +kernel
theorem f8_33 : xfld 8 33 = some (8, 3, false, false, 312) := by decide +kernel
theorem f8_40 : xfld 8 40 = some (8, 4, false, false, 313) := by decide +kernel
theorem f8_46 : xfld 8 46 = some (8, 5, false, false, 314) := by decide +kernel
theorem f8_128 : xfld 8 128 = some (7, 0, true, true, 115) := by decide +kernel
theorem f8_134 : xfld 8 134 = some (7, 1, true, true, 117) := by decide +kernel
theorem f8_137 : xfld 8 137 = some (7, 2, true, true, 119) := by decide +kernel
theorem f8_140 : xfld 8 140 = some (7, 3, true, true, 121) := by decide +kernel
theorem f8_143 : xfld 8 143 = some (7, 4, true, true, 123) := by decide +kernel
theorem f9_7 : xfld 9 7 = some (9, 0, false, false, 860) := by decide +kernel
theorem f9_13 : xfld 9 13 = some (9, 1, false, false, 861) := by decide +kernel
theorem f9_16 : xfld 9 16 = some (9, 3, false, false, 863) := by decide +kernel
theorem f9_19 : xfld 9 19 = some (9, 5, false, false, 865) := by decide +kernel
theorem f9_22 : xfld 9 22 = some (9, 17, false, false, 877) := by decide +kernel
theorem f9_25 : xfld 9 25 = some (9, 18, false, false, 878) := by decide +kernel
theorem f9_28 : xfld 9 28 = some (9, 19, false, false, 879) := by decide +kernel
theorem f9_42 : xfld 9 42 = some (9, 6, false, true, 866) := by decide +kernel
theorem f9_46 : xfld 9 46 = some (9, 7, false, true, 867) := by decide +kernel
theorem f9_49 : xfld 9 49 = some (9, 8, false, true, 868) := by decide +kernel
theorem f9_52 : xfld 9 52 = some (9, 9, false, true, 869) := by decide +kernel
theorem f9_55 : xfld 9 55 = some (9, 10, false, true, 870) := by decide +kernel
theorem f9_85 : xfld 9 85 = some (9, 4, false, true, 864) := by decide +kernel
theorem f9_102 : xfld 9 102 = some (9, 12, false, true, 872) := by decide +kernel
theorem f9_121 : xfld 9 121 = some (9, 11, false, true, 871) := by decide +kernel
theorem f9_141 : xfld 9 141 = some (9, 14, false, true, 874) := by decide +kernel
theorem f9_144 : xfld 9 144 = some (9, 13, false, true, 873) := by decide +kernel
theorem f9_150 : xfld 9 150 = some (9, 16, false, true, 876) := by decide +kernel
theorem f9_153 : xfld 9 153 = some (9, 15, false, true, 875) := by decide +kernel
theorem f9_203 : xfld 9 203 = some (9, 2, false, true, 862) := by decide +kernel
theorem m0_3 : xmth 0 3 = some (6, 0, 0, 77, 70, 0) := by decide +kernel
theorem m0_33 : xmth 0 33 = some (5, 47, 0, 80, 81, 0) := by decide +kernel
theorem m0_40 : xmth 0 40 = some (5, 83, 0, 110, 111, 0) := by decide +kernel
theorem m0_49 : xmth 0 49 = some (1, 2, 0, 135, 137, 0) := by decide +kernel
theorem m0_52 : xmth 0 52 = some (7, 0, 5, 420, 421, 0) := by decide +kernel
theorem m0_58 : xmth 0 58 = some (1, 51, 1, 423, 424, 425) := by decide +kernel
theorem m0_62 : xmth 0 62 = some (3, 88, 1, 169, 170, 0) := by decide +kernel
theorem m0_66 : xmth 0 66 = some (3, 87, 1, 150, 151, 0) := by decide +kernel
theorem m0_69 : xmth 0 69 = some (1, 17, 2, 451, 453, 10) := by decide +kernel
theorem m0_73 : xmth 0 73 = some (1, 18, 2, 458, 460, 11) := by decide +kernel
theorem m0_76 : xmth 0 76 = some (1, 9, 1, 455, 337, 338) := by decide +kernel
theorem m0_80 : xmth 0 80 = some (1, 11, 1, 456, 344, 345) := by decide +kernel
theorem m0_83 : xmth 0 83 = some (0, 10, 2, 457, 341, 0) := by decide +kernel
theorem m0_87 : xmth 0 87 = some (1, 19, 1, 462, 463, 464) := by decide +kernel
theorem m0_90 : xmth 0 90 = some (1, 21, 3, 470, 472, 12) := by decide +kernel
theorem m0_94 : xmth 0 94 = some (1, 24, 2, 482, 484, 15) := by decide +kernel
theorem m0_97 : xmth 0 97 = some (1, 22, 2, 474, 476, 13) := by decide +kernel
theorem m0_101 : xmth 0 101 = some (1, 23, 2, 478, 480, 14) := by decide +kernel
theorem m0_104 : xmth 0 104 = some (1, 48, 0, 139, 140, 141) := by decide +kernel
theorem m0_107 : xmth 0 107 = some (1, 3, 3, 146, 148, 1) := by decide +kernel
theorem m0_111 : xmth 0 111 = some (1, 52, 1, 486, 487, 488) := by decide +kernel
theorem m0_115 : xmth 0 115 = some (1, 54, 1, 514, 495, 496) := by decide +kernel
theorem m0_118 : xmth 0 118 = some (1, 57, 1, 515, 507, 508) := by decide +kernel
theorem m0_121 : xmth 0 121 = some (1, 58, 1, 516, 511, 512) := by decide +kernel
theorem m0_124 : xmth 0 124 = some (1, 53, 1, 517, 491, 492) := by decide +kernel
theorem m0_127 : xmth 0 127 = some (1, 59, 1, 518, 519, 520) := by decide +kernel
theorem m0_131 : xmth 0 131 = some (1, 85, 3, 522, 523, 524) := by decide +kernel
theorem m0_135 : xmth 0 135 = some (1, 4, 1, 153, 155, 2) := by decide +kernel
theorem m0_138 : xmth 0 138 = some (1, 7, 4, 165, 167, 4) := by decide +kernel
theorem m0_142 : xmth 0 142 = some (1, 8, 3, 172, 174, 5) := by decide +kernel
theorem m0_145 : xmth 0 145 = some (1, 5, 1, 157, 158, 159) := by decide +kernel
theorem m0_148 : xmth 0 148 = some (1, 6, 1, 161, 163, 3) := by decide +kernel
theorem m0_151 : xmth 0 151 = some (1, 49, 1, 176, 177, 178) := by decide +kernel
theorem m0_154 : xmth 0 154 = some (1, 50, 3, 181, 182, 183) := by decide +kernel
theorem m0_157 : xmth 0 157 = some (1, 25, 1, 623, 553, 554) := by decide +kernel
theorem m0_160 : xmth 0 160 = some (1, 27, 2, 618, 580, 581) := by decide +kernel
theorem m0_163 : xmth 0 163 = some (1, 30, 3, 619, 621, 18) := by decide +kernel
theorem m1_1 : xmth 1 1 = some (6, 0, 0, 294, 70, 0) := by decide +kernel
theorem m1_9 : xmth 1 9 = some (2, 1, 0, 296, 75, 0) := by decide +kernel
theorem m1_18 : xmth 1 18 = some (5, 77, 0, 298, 229, 0) := by decide +kernel
theorem m1_27 : xmth 1 27 = some (1, 14, 1, 796, 417, 418) := by decide +kernel
theorem m1_31 : xmth 1 31 = some (1, 82, 1, 797, 798, 799) := by decide +kernel
theorem m2_3 : xmth 2 3 = some (6, 0, 0, 218, 70, 0) := by decide +kernel
theorem m2_19 : xmth 2 19 = some (1, 41, 1, 387, 389, 7) := by decide +kernel
theorem m2_23 : xmth 2 23 = some (3, 88, 1, 395, 170, 0) := by decide +kernel
theorem m2_27 : xmth 2 27 = some (1, 40, 1, 383, 385, 6) := by decide +kernel
theorem m2_30 : xmth 2 30 = some (1, 43, 1, 396, 397, 398) := by decide +kernel
theorem m2_33 : xmth 2 33 = some (1, 42, 1, 391, 393, 8) := by decide +kernel
theorem m2_36 : xmth 2 36 = some (1, 44, 1, 400, 401, 402) := by decide +kernel
theorem m3_3 : xmth 3 3 = some (6, 0, 0, 83, 70, 0) := by decide +kernel
theorem m3_34 : xmth 3 34 = some (7, 0, 5, 427, 421, 0) := by decide +kernel
theorem m3_40 : xmth 3 40 = some (0, 187, 2, 143, 144, 0) := by decide +kernel
theorem m3_46 : xmth 3 46 = some (3, 87, 1, 180, 151, 0) := by decide +kernel
theorem m3_50 : xmth 3 50 = some (1, 55, 1, 498, 500, 16) := by decide +kernel
theorem m3_53 : xmth 3 53 = some (1, 54, 1, 494, 495, 496) := by decide +kernel
theorem m3_57 : xmth 3 57 = some (1, 53, 1, 490, 491, 492) := by decide +kernel
theorem m3_60 : xmth 3 60 = some (1, 56, 2, 502, 504, 17) := by decide +kernel
theorem m3_64 : xmth 3 64 = some (1, 57, 1, 506, 507, 508) := by decide +kernel
theorem m3_67 : xmth 3 67 = some (1, 58, 1, 510, 511, 512) := by decide +kernel
theorem m4_3 : xmth 4 3 = some (6, 0, 0, 250, 70, 0) := by decide +kernel
theorem m4_11 : xmth 4 11 = some (2, 1, 0, 252, 75, 0) := by decide +kernel
theorem m4_28 : xmth 4 28 = some (1, 14, 1, 416, 417, 418) := by decide +kernel
theorem m4_32 : xmth 4 32 = some (1, 15, 0, 428, 429, 430) := by decide +kernel
theorem m4_36 : xmth 4 36 = some (1, 84, 0, 432, 433, 434) := by decide +kernel
theorem m4_41 : xmth 4 41 = some (1, 63, 1, 412, 414, 9) := by decide +kernel
theorem m4_44 : xmth 4 44 = some (1, 39, 0, 436, 380, 381) := by decide +kernel
theorem m4_50 : xmth 4 50 = some (1, 37, 0, 437, 364, 365) := by decide +kernel
theorem m4_53 : xmth 4 53 = some (1, 44, 1, 438, 401, 402) := by decide +kernel
theorem m4_57 : xmth 4 57 = some (1, 45, 1, 439, 440, 441) := by decide +kernel
theorem m4_60 : xmth 4 60 = some (1, 46, 1, 443, 444, 445) := by decide +kernel
theorem m4_63 : xmth 4 63 = some (1, 16, 3, 447, 448, 449) := by decide +kernel
theorem m4_67 : xmth 4 67 = some (1, 20, 4, 466, 467, 468) := by decide +kernel
theorem m4_71 : xmth 4 71 = some (1, 43, 1, 526, 397, 398) := by decide +kernel
theorem m4_77 : xmth 4 77 = some (8, 0, 1, 747, 748, 749) := by decide +kernel
theorem m5_5 : xmth 5 5 = some (6, 0, 0, 271, 70, 0) := by decide +kernel
theorem m5_30 : xmth 5 30 = some (1, 81, 2, 694, 695, 696) := by decide +kernel
theorem m5_34 : xmth 5 34 = some (1, 74, 1, 714, 716, 19) := by decide +kernel
theorem m5_38 : xmth 5 38 = some (11, 0, 2, 722, 723, 724) := by decide +kernel
theorem m5_44 : xmth 5 44 = some (0, 187, 2, 718, 144, 0) := by decide +kernel
theorem m5_50 : xmth 5 50 = some (12, 0, 2, 719, 720, 721) := by decide +kernel
theorem m6_1 : xmth 6 1 = some (6, 0, 0, 231, 70, 0) := by decide +kernel
theorem m6_24 : xmth 6 24 = some (7, 0, 5, 801, 421, 0) := by decide +kernel
theorem m7_3 : xmth 7 3 = some (6, 0, 0, 113, 70, 0) := by decide +kernel
theorem m8_1 : xmth 8 1 = some (6, 0, 0, 69, 70, 0) := by decide +kernel
theorem m8_9 : xmth 8 9 = some (2, 1, 0, 74, 75, 0) := by decide +kernel
theorem m8_18 : xmth 8 18 = some (5, 35, 0, 215, 216, 0) := by decide +kernel
theorem m8_25 : xmth 8 25 = some (5, 77, 0, 228, 229, 0) := by decide +kernel
theorem m8_32 : xmth 8 32 = some (5, 61, 0, 247, 248, 0) := by decide +kernel
theorem m8_39 : xmth 8 39 = some (5, 69, 0, 268, 269, 0) := by decide +kernel
theorem m8_50 : xmth 8 50 = some (5, 32, 0, 291, 292, 0) := by decide +kernel
theorem m8_51 : xmth 8 51 = some (0, 88, 1, 332, 170, 0) := by decide +kernel
theorem m8_55 : xmth 8 55 = some (0, 90, 2, 333, 334, 0) := by decide +kernel
theorem m8_59 : xmth 8 59 = some (1, 9, 1, 336, 337, 338) := by decide +kernel
theorem m8_63 : xmth 8 63 = some (0, 10, 2, 340, 341, 0) := by decide +kernel
theorem m8_66 : xmth 8 66 = some (1, 11, 1, 343, 344, 345) := by decide +kernel
theorem m8_69 : xmth 8 69 = some (1, 12, 1, 347, 348, 349) := by decide +kernel
theorem m8_72 : xmth 8 72 = some (1, 13, 4, 351, 352, 353) := by decide +kernel
theorem m8_76 : xmth 8 76 = some (1, 36, 1, 359, 360, 361) := by decide +kernel
theorem m8_79 : xmth 8 79 = some (1, 37, 0, 363, 364, 365) := by decide +kernel
theorem m8_83 : xmth 8 83 = some (1, 38, 0, 371, 372, 373) := by decide +kernel
theorem m8_86 : xmth 8 86 = some (1, 39, 0, 379, 380, 381) := by decide +kernel
theorem m8_89 : xmth 8 89 = some (1, 62, 2, 408, 409, 410) := by decide +kernel
theorem m8_93 : xmth 8 93 = some (1, 64, 0, 527, 528, 529) := by decide +kernel
theorem m8_96 : xmth 8 96 = some (1, 65, 0, 531, 532, 533) := by decide +kernel
theorem m8_99 : xmth 8 99 = some (1, 66, 0, 539, 540, 541) := by decide +kernel
theorem m8_102 : xmth 8 102 = some (1, 14, 1, 543, 417, 418) := by decide +kernel
theorem m8_106 : xmth 8 106 = some (1, 67, 0, 544, 545, 546) := by decide +kernel
theorem m8_109 : xmth 8 109 = some (1, 25, 1, 552, 553, 554) := by decide +kernel
theorem m8_112 : xmth 8 112 = some (1, 19, 1, 556, 463, 464) := by decide +kernel
theorem m8_115 : xmth 8 115 = some (0, 87, 1, 561, 151, 0) := by decide +kernel
theorem m8_118 : xmth 8 118 = some (1, 5, 1, 562, 158, 159) := by decide +kernel
theorem m8_121 : xmth 8 121 = some (1, 15, 0, 567, 429, 430) := by decide +kernel
theorem m8_125 : xmth 8 125 = some (1, 26, 0, 568, 569, 570) := by decide +kernel
theorem m8_146 : xmth 8 146 = some (0, 100, 2, 576, 577, 0) := by decide +kernel
theorem m8_149 : xmth 8 149 = some (1, 27, 2, 579, 580, 581) := by decide +kernel
theorem m8_153 : xmth 8 153 = some (0, 102, 1, 587, 588, 0) := by decide +kernel
theorem m8_158 : xmth 8 158 = some (1, 28, 0, 591, 592, 593) := by decide +kernel
theorem m8_162 : xmth 8 162 = some (1, 52, 1, 595, 487, 488) := by decide +kernel
theorem m8_170 : xmth 8 170 = some (1, 57, 1, 597, 507, 508) := by decide +kernel
theorem m8_173 : xmth 8 173 = some (1, 58, 1, 598, 511, 512) := by decide +kernel
theorem m8_176 : xmth 8 176 = some (0, 103, 3, 599, 600, 0) := by decide +kernel
theorem m8_180 : xmth 8 180 = some (1, 54, 1, 609, 495, 496) := by decide +kernel
theorem m8_183 : xmth 8 183 = some (1, 29, 2, 614, 615, 616) := by decide +kernel
theorem m8_188 : xmth 8 188 = some (1, 31, 3, 629, 630, 631) := by decide +kernel
theorem m8_192 : xmth 8 192 = some (0, 181, 2, 637, 638, 0) := by decide +kernel
theorem m8_198 : xmth 8 198 = some (0, 185, 2, 654, 655, 0) := by decide +kernel
theorem m8_201 : xmth 8 201 = some (0, 186, 2, 658, 659, 0) := by decide +kernel
theorem m8_206 : xmth 8 206 = some (1, 78, 3, 670, 671, 672) := by decide +kernel
theorem m8_209 : xmth 8 209 = some (1, 79, 0, 674, 675, 676) := by decide +kernel
theorem m8_212 : xmth 8 212 = some (1, 80, 0, 682, 683, 684) := by decide +kernel
theorem m8_213 : xmth 8 213 = some (1, 70, 1, 690, 691, 692) := by decide +kernel
theorem m8_217 : xmth 8 217 = some (1, 71, 0, 698, 699, 700) := by decide +kernel
theorem m8_218 : xmth 8 218 = some (1, 72, 1, 702, 703, 704) := by decide +kernel
theorem m8_221 : xmth 8 221 = some (1, 73, 0, 710, 711, 712) := by decide +kernel
theorem m8_224 : xmth 8 224 = some (1, 75, 0, 725, 726, 727) := by decide +kernel
theorem m8_227 : xmth 8 227 = some (1, 76, 0, 729, 730, 731) := by decide +kernel
theorem m8_230 : xmth 8 230 = some (1, 68, 3, 741, 742, 743) := by decide +kernel
theorem m8_234 : xmth 8 234 = some (1, 33, 2, 792, 793, 794) := by decide +kernel
theorem m8_238 : xmth 8 238 = some (1, 34, 2, 806, 807, 808) := by decide +kernel
theorem m8_242 : xmth 8 242 = some (1, 118, 1, 814, 816, 20) := by decide +kernel
theorem m8_245 : xmth 8 245 = some (1, 119, 2, 822, 824, 21) := by decide +kernel
theorem m8_248 : xmth 8 248 = some (1, 60, 0, 818, 819, 820) := by decide +kernel
theorem m8_249 : xmth 8 249 = some (9, 0, 1, 602, 603, 604) := by decide +kernel
theorem m9_1 : xmth 9 1 = some (6, 0, 0, 831, 70, 0) := by decide +kernel
theorem m9_32 : xmth 9 32 = some (1, 121, 0, 832, 834, 22) := by decide +kernel
theorem m9_35 : xmth 9 35 = some (1, 127, 0, 856, 858, 28) := by decide +kernel
theorem m9_38 : xmth 9 38 = some (0, 130, 3, 928, 929, 0) := by decide +kernel
theorem m9_58 : xmth 9 58 = some (1, 125, 4, 848, 850, 26) := by decide +kernel
theorem m9_62 : xmth 9 62 = some (1, 123, 1, 840, 842, 24) := by decide +kernel
theorem m9_66 : xmth 9 66 = some (1, 122, 2, 836, 838, 23) := by decide +kernel
theorem m9_70 : xmth 9 70 = some (1, 124, 4, 844, 846, 25) := by decide +kernel
theorem m9_74 : xmth 9 74 = some (1, 126, 1, 852, 854, 27) := by decide +kernel
theorem m9_78 : xmth 9 78 = some (0, 129, 1, 925, 926, 0) := by decide +kernel
theorem m9_82 : xmth 9 82 = some (1, 131, 0, 931, 933, 29) := by decide +kernel
theorem m9_88 : xmth 9 88 = some (0, 136, 2, 951, 952, 0) := by decide +kernel
theorem m9_91 : xmth 9 91 = some (1, 135, 0, 947, 949, 30) := by decide +kernel
theorem m9_95 : xmth 9 95 = some (1, 141, 1, 970, 972, 34) := by decide +kernel
theorem m9_98 : xmth 9 98 = some (1, 142, 2, 974, 976, 35) := by decide +kernel
theorem m9_105 : xmth 9 105 = some (1, 140, 1, 966, 968, 33) := by decide +kernel
theorem m9_108 : xmth 9 108 = some (1, 143, 2, 978, 980, 36) := by decide +kernel
theorem m9_111 : xmth 9 111 = some (1, 144, 2, 982, 984, 37) := by decide +kernel
theorem m9_115 : xmth 9 115 = some (1, 145, 2, 986, 988, 38) := by decide +kernel
theorem m9_118 : xmth 9 118 = some (1, 139, 1, 962, 964, 32) := by decide +kernel
theorem m9_124 : xmth 9 124 = some (1, 138, 0, 958, 960, 31) := by decide +kernel
theorem m9_127 : xmth 9 127 = some (1, 147, 0, 994, 996, 39) := by decide +kernel
theorem m9_130 : xmth 9 130 = some (1, 154, 2, 1021, 1023, 41) := by decide +kernel
theorem m9_134 : xmth 9 134 = some (0, 152, 2, 1014, 1015, 0) := by decide +kernel
theorem m9_137 : xmth 9 137 = some (1, 153, 3, 1017, 1019, 40) := by decide +kernel
theorem m9_147 : xmth 9 147 = some (1, 157, 2, 1034, 1036, 43) := by decide +kernel
theorem m9_158 : xmth 9 158 = some (1, 156, 0, 1030, 1032, 42) := by decide +kernel
theorem m9_163 : xmth 9 163 = some (0, 158, 3, 1039, 1040, 0) := by decide +kernel
theorem m9_169 : xmth 9 169 = some (0, 166, 1, 1072, 1073, 0) := by decide +kernel
theorem m9_175 : xmth 9 175 = some (0, 165, 4, 1069, 1070, 0) := by decide +kernel
theorem m9_189 : xmth 9 189 = some (0, 163, 2, 1059, 1060, 0) := by decide +kernel
theorem m9_193 : xmth 9 193 = some (0, 164, 2, 1066, 1067, 0) := by decide +kernel
theorem m9_196 : xmth 9 196 = some (0, 167, 1, 1075, 1076, 0) := by decide +kernel
theorem m9_200 : xmth 9 200 = some (0, 168, 1, 1080, 1081, 0) := by decide +kernel
theorem m9_206 : xmth 9 206 = some (0, 174, 3, 1103, 1104, 0) := by decide +kernel
theorem m9_209 : xmth 9 209 = some (1, 173, 1, 1099, 1101, 44) := by decide +kernel
theorem m10_9 : xmth 10 9 = some (10, 0, 1, 643, 644, 645) := by decide +kernel
theorem m10_15 : xmth 10 15 = some (0, 183, 3, 646, 647, 0) := by decide +kernel
theorem m10_19 : xmth 10 19 = some (0, 184, 2, 649, 650, 0) := by decide +kernel
theorem m10_23 : xmth 10 23 = some (0, 182, 4, 640, 641, 0) := by decide +kernel
theorem m11_9 : xmth 11 9 = some (2, 86, 0, 66, 67, 0) := by decide +kernel
theorem m11_12 : xmth 11 12 = some (2, 120, 0, 828, 829, 0) := by decide +kernel
theorem m11_13 : xmth 11 13 = some (1, 89, 4, 328, 329, 330) := by decide +kernel
theorem m11_17 : xmth 11 17 = some (1, 128, 4, 921, 922, 923) := by decide +kernel
theorem m11_18 : xmth 11 18 = some (1, 91, 1, 355, 356, 357) := by decide +kernel
theorem m11_22 : xmth 11 22 = some (1, 132, 1, 935, 936, 937) := by decide +kernel
theorem m11_23 : xmth 11 23 = some (1, 92, 0, 367, 368, 369) := by decide +kernel
theorem m11_27 : xmth 11 27 = some (1, 133, 0, 939, 940, 941) := by decide +kernel
theorem m11_28 : xmth 11 28 = some (1, 93, 0, 375, 376, 377) := by decide +kernel
theorem m11_31 : xmth 11 31 = some (1, 134, 0, 943, 944, 945) := by decide +kernel
theorem m11_32 : xmth 11 32 = some (1, 94, 1, 404, 405, 406) := by decide +kernel
theorem m11_35 : xmth 11 35 = some (1, 137, 1, 954, 955, 956) := by decide +kernel
theorem m11_36 : xmth 11 36 = some (1, 95, 0, 535, 536, 537) := by decide +kernel
theorem m11_39 : xmth 11 39 = some (1, 146, 0, 990, 991, 992) := by decide +kernel
theorem m11_40 : xmth 11 40 = some (1, 96, 2, 548, 549, 550) := by decide +kernel
theorem m11_44 : xmth 11 44 = some (1, 148, 2, 998, 999, 1000) := by decide +kernel
theorem m11_45 : xmth 11 45 = some (1, 97, 1, 557, 558, 559) := by decide +kernel
theorem m11_48 : xmth 11 48 = some (1, 149, 1, 1002, 1003, 1004) := by decide +kernel
theorem m11_49 : xmth 11 49 = some (1, 98, 1, 563, 564, 565) := by decide +kernel
theorem m11_52 : xmth 11 52 = some (1, 150, 1, 1006, 1007, 1008) := by decide +kernel
theorem m11_53 : xmth 11 53 = some (1, 99, 2, 572, 573, 574) := by decide +kernel
theorem m11_56 : xmth 11 56 = some (1, 151, 2, 1010, 1011, 1012) := by decide +kernel
theorem m11_57 : xmth 11 57 = some (1, 101, 1, 583, 584, 585) := by decide +kernel
theorem m11_61 : xmth 11 61 = some (1, 155, 1, 1025, 1026, 1027) := by decide +kernel
theorem m11_62 : xmth 11 62 = some (1, 104, 0, 605, 606, 607) := by decide +kernel
theorem m11_65 : xmth 11 65 = some (1, 159, 0, 1042, 1043, 1044) := by decide +kernel
theorem m11_66 : xmth 11 66 = some (1, 105, 2, 610, 611, 612) := by decide +kernel
theorem m11_69 : xmth 11 69 = some (1, 160, 2, 1046, 1047, 1048) := by decide +kernel
theorem m11_70 : xmth 11 70 = some (1, 106, 4, 624, 625, 626) := by decide +kernel
theorem m11_74 : xmth 11 74 = some (1, 161, 4, 1050, 1051, 1052) := by decide +kernel
theorem m11_75 : xmth 11 75 = some (1, 107, 4, 633, 634, 635) := by decide +kernel
theorem m11_78 : xmth 11 78 = some (1, 162, 4, 1055, 1056, 1057) := by decide +kernel
theorem m11_79 : xmth 11 79 = some (1, 108, 3, 662, 663, 664) := by decide +kernel
theorem m11_83 : xmth 11 83 = some (1, 169, 3, 1083, 1084, 1085) := by decide +kernel
theorem m11_84 : xmth 11 84 = some (1, 109, 3, 666, 667, 668) := by decide +kernel
theorem m11_88 : xmth 11 88 = some (1, 170, 3, 1087, 1088, 1089) := by decide +kernel
theorem m11_89 : xmth 11 89 = some (1, 110, 0, 678, 679, 680) := by decide +kernel
theorem m11_92 : xmth 11 92 = some (1, 171, 0, 1091, 1092, 1093) := by decide +kernel
theorem m11_93 : xmth 11 93 = some (1, 111, 1, 686, 687, 688) := by decide +kernel
theorem m11_96 : xmth 11 96 = some (1, 172, 1, 1095, 1096, 1097) := by decide +kernel
theorem m11_97 : xmth 11 97 = some (1, 112, 1, 706, 707, 708) := by decide +kernel
theorem m11_100 : xmth 11 100 = some (1, 175, 1, 1106, 1107, 1108) := by decide +kernel
theorem m11_101 : xmth 11 101 = some (1, 113, 3, 733, 734, 735) := by decide +kernel
theorem m11_104 : xmth 11 104 = some (1, 176, 3, 1111, 1112, 1113) := by decide +kernel
theorem m11_105 : xmth 11 105 = some (1, 114, 3, 737, 738, 739) := by decide +kernel
theorem m11_109 : xmth 11 109 = some (1, 177, 3, 1115, 1116, 1117) := by decide +kernel
theorem m11_110 : xmth 11 110 = some (1, 115, 1, 788, 789, 790) := by decide +kernel
theorem m11_113 : xmth 11 113 = some (1, 178, 1, 1120, 1121, 1122) := by decide +kernel
theorem m11_114 : xmth 11 114 = some (1, 116, 1, 802, 803, 804) := by decide +kernel
theorem m11_117 : xmth 11 117 = some (1, 179, 1, 1124, 1125, 1126) := by decide +kernel
theorem m11_118 : xmth 11 118 = some (1, 117, 1, 810, 811, 812) := by decide +kernel
theorem m11_121 : xmth 11 121 = some (1, 180, 1, 1128, 1129, 1130) := by decide +kernel
theorem c4_74 : xcst 4 74 = some (.int (65537 : Int32), 745) := by decide +kernel
theorem c4_75 : xcst 4 75 = some (.retAddr 1, 0) := by decide +kernel
theorem c8_156 : xcst 8 156 = some (.long (-1000000000000000002 : Int64), 590) := by decide +kernel
theorem c8_168 : xcst 8 168 = some (.long (-1000000000000000003 : Int64), 596) := by decide +kernel
theorem c8_186 : xcst 8 186 = some (.long (-1000000000000000001 : Int64), 628) := by decide +kernel
theorem c8_204 : xcst 8 204 = some (.long (1073741824 : Int64), 661) := by decide +kernel
theorem c9_156 : xcst 9 156 = some (.long (-1000000000000000002 : Int64), 1029) := by decide +kernel
theorem c9_161 : xcst 9 161 = some (.long (-1000000000000000003 : Int64), 1038) := by decide +kernel
theorem c9_167 : xcst 9 167 = some (.long (-1000000000000000001 : Int64), 1054) := by decide +kernel
theorem c9_173 : xcst 9 173 = some (.long (2 : Int64), 1063) := by decide +kernel
theorem c9_179 : xcst 9 179 = some (.long (8388608 : Int64), 1078) := by decide +kernel
theorem c9_181 : xcst 9 181 = some (.long (2147483648 : Int64), 1079) := by decide +kernel
theorem c9_183 : xcst 9 183 = some (.long (4503599627370496 : Int64), 1062) := by decide +kernel
theorem c9_185 : xcst 9 185 = some (.long (9007199254740992 : Int64), 1064) := by decide +kernel
theorem c9_187 : xcst 9 187 = some (.long (-9223372036854775808 : Int64), 1065) := by decide +kernel
theorem c9_212 : xcst 9 212 = some (.int (1000000 : Int32), 1110) := by decide +kernel
theorem c9_213 : xcst 9 213 = some (.int (65537 : Int32), 1119) := by decide +kernel
theorem c10_29 : xcst 10 29 = some (.int (-2147483648 : Int32), 653) := by decide +kernel
theorem c10_32 : xcst 10 32 = some (.long (-9223372036854775808 : Int64), 657) := by decide +kernel
theorem c10_34 : xcst 10 34 = some (.long (2 : Int64), 652) := by decide +kernel
theorem n0_31 : xnew 0 31 = some (3, 78) := by decide +kernel
theorem n0_38 : xnew 0 38 = some (7, 108) := by decide +kernel
theorem n1_7 : xnew 1 7 = some (0, 295) := by decide +kernel
theorem n1_16 : xnew 1 16 = some (6, 297) := by decide +kernel
theorem n4_9 : xnew 4 9 = some (0, 251) := by decide +kernel
theorem n8_7 : xnew 8 7 = some (0, 72) := by decide +kernel
theorem n8_16 : xnew 8 16 = some (2, 213) := by decide +kernel
theorem n8_23 : xnew 8 23 = some (6, 226) := by decide +kernel
theorem n8_30 : xnew 8 30 = some (4, 245) := by decide +kernel
theorem n8_37 : xnew 8 37 = some (5, 266) := by decide +kernel
theorem n8_44 : xnew 8 44 = some (1, 288) := by decide +kernel
theorem n11_7 : xnew 11 7 = some (8, 64) := by decide +kernel
theorem n11_10 : xnew 11 10 = some (9, 826) := by decide +kernel
theorem r0_86 : xrm 0 86 = true := by decide +kernel
theorem r0_89 : xrm 0 89 = true := by decide +kernel
theorem r0_91 : xrm 0 91 = true := by decide +kernel
theorem r0_92 : xrm 0 92 = true := by decide +kernel
theorem r0_93 : xrm 0 93 = true := by decide +kernel
theorem r0_94 : xrm 0 94 = true := by decide +kernel
theorem r0_95 : xrm 0 95 = true := by decide +kernel
theorem r0_96 : xrm 0 96 = true := by decide +kernel
theorem r0_97 : xrm 0 97 = true := by decide +kernel
theorem r0_98 : xrm 0 98 = true := by decide +kernel
theorem r0_99 : xrm 0 99 = true := by decide +kernel
theorem r0_101 : xrm 0 101 = true := by decide +kernel
theorem r0_104 : xrm 0 104 = true := by decide +kernel
theorem r0_105 : xrm 0 105 = true := by decide +kernel
theorem r0_106 : xrm 0 106 = true := by decide +kernel
theorem r0_107 : xrm 0 107 = true := by decide +kernel
theorem r0_108 : xrm 0 108 = true := by decide +kernel
theorem r0_109 : xrm 0 109 = true := by decide +kernel
theorem r0_110 : xrm 0 110 = true := by decide +kernel
theorem r0_111 : xrm 0 111 = true := by decide +kernel
theorem r0_112 : xrm 0 112 = true := by decide +kernel
theorem r0_113 : xrm 0 113 = true := by decide +kernel
theorem r0_114 : xrm 0 114 = true := by decide +kernel
theorem r0_115 : xrm 0 115 = true := by decide +kernel
theorem r0_116 : xrm 0 116 = true := by decide +kernel
theorem r0_117 : xrm 0 117 = true := by decide +kernel
theorem r0_120 : xrm 0 120 = true := by decide +kernel
theorem r0_128 : xrm 0 128 = true := by decide +kernel
theorem r0_132 : xrm 0 132 = true := by decide +kernel
theorem r0_133 : xrm 0 133 = true := by decide +kernel
theorem r0_134 : xrm 0 134 = true := by decide +kernel
theorem r0_137 : xrm 0 137 = true := by decide +kernel
theorem r0_146 : xrm 0 146 = true := by decide +kernel
theorem r0_148 : xrm 0 148 = true := by decide +kernel
theorem r0_149 : xrm 0 149 = true := by decide +kernel
theorem r0_150 : xrm 0 150 = true := by decide +kernel
theorem r0_151 : xrm 0 151 = true := by decide +kernel
theorem r0_155 : xrm 0 155 = true := by decide +kernel
theorem r0_159 : xrm 0 159 = true := by decide +kernel
theorem r0_160 : xrm 0 160 = true := by decide +kernel
theorem r0_161 : xrm 0 161 = true := by decide +kernel
theorem r0_162 : xrm 0 162 = true := by decide +kernel
theorem r0_169 : xrm 0 169 = true := by decide +kernel
theorem r0_170 : xrm 0 170 = true := by decide +kernel
theorem r0_171 : xrm 0 171 = true := by decide +kernel
theorem r0_172 : xrm 0 172 = true := by decide +kernel
theorem r0_175 : xrm 0 175 = true := by decide +kernel
theorem r0_176 : xrm 0 176 = true := by decide +kernel
theorem r0_177 : xrm 0 177 = true := by decide +kernel
theorem r0_178 : xrm 0 178 = true := by decide +kernel
theorem r0_179 : xrm 0 179 = true := by decide +kernel
theorem r0_180 : xrm 0 180 = true := by decide +kernel
theorem r1_2 : xrm 1 2 = true := by decide +kernel
theorem r1_47 : xrm 1 47 = true := by decide +kernel
theorem r1_83 : xrm 1 83 = true := by decide +kernel
theorem q1 : xrf 1 = 5 ∧ xrl 1 = 114 := by decide +kernel
theorem qf1 : xrf 1 = 5 := q1.1
theorem ql1 : xrl 1 = 114 := q1.2
theorem r2_3 : xrm 2 3 = true := by decide +kernel
theorem r2_48 : xrm 2 48 = true := by decide +kernel
theorem r3_4 : xrm 3 4 = true := by decide +kernel
theorem r3_7 : xrm 3 7 = true := by decide +kernel
theorem r3_8 : xrm 3 8 = true := by decide +kernel
theorem r3_87 : xrm 3 87 = true := by decide +kernel
theorem r4_5 : xrm 4 5 = true := by decide +kernel
theorem r4_6 : xrm 4 6 = true := by decide +kernel
theorem r5_87 : xrm 5 87 = true := by decide +kernel
theorem r7_88 : xrm 7 88 = true := by decide +kernel
theorem r8_49 : xrm 8 49 = true := by decide +kernel
theorem r8_50 : xrm 8 50 = true := by decide +kernel
theorem r8_88 : xrm 8 88 = true := by decide +kernel
theorem r9_88 : xrm 9 88 = true := by decide +kernel
theorem r11_88 : xrm 11 88 = true := by decide +kernel
theorem r12_88 : xrm 12 88 = true := by decide +kernel
theorem r13_2 : xrm 13 2 = true := by decide +kernel
theorem r13_88 : xrm 13 88 = true := by decide +kernel
theorem r14_51 : xrm 14 51 = true := by decide +kernel
theorem q14 : xrf 14 = 2 ∧ xrl 14 = 49 := by decide +kernel
theorem qf14 : xrf 14 = 2 := q14.1
theorem ql14 : xrl 14 = 49 := q14.2
theorem r16_17 : xrm 16 17 = true := by decide +kernel
theorem r16_18 : xrm 16 18 = true := by decide +kernel
theorem r16_88 : xrm 16 88 = true := by decide +kernel
theorem r17_9 : xrm 17 9 = true := by decide +kernel
theorem r17_10 : xrm 17 10 = true := by decide +kernel
theorem r17_11 : xrm 17 11 = true := by decide +kernel
theorem r18_11 : xrm 18 11 = true := by decide +kernel
theorem r18_19 : xrm 18 19 = true := by decide +kernel
theorem r19_88 : xrm 19 88 = true := by decide +kernel
theorem r20_2 : xrm 20 2 = true := by decide +kernel
theorem r20_21 : xrm 20 21 = true := by decide +kernel
theorem r20_24 : xrm 20 24 = true := by decide +kernel
theorem r21_22 : xrm 21 22 = true := by decide +kernel
theorem r21_23 : xrm 21 23 = true := by decide +kernel
theorem r21_88 : xrm 21 88 = true := by decide +kernel
theorem r22_88 : xrm 22 88 = true := by decide +kernel
theorem r23_88 : xrm 23 88 = true := by decide +kernel
theorem r24_3 : xrm 24 3 = true := by decide +kernel
theorem r24_52 : xrm 24 52 = true := by decide +kernel
theorem r24_53 : xrm 24 53 = true := by decide +kernel
theorem r24_54 : xrm 24 54 = true := by decide +kernel
theorem r24_57 : xrm 24 57 = true := by decide +kernel
theorem r24_58 : xrm 24 58 = true := by decide +kernel
theorem r24_59 : xrm 24 59 = true := by decide +kernel
theorem r24_85 : xrm 24 85 = true := by decide +kernel
theorem r25_88 : xrm 25 88 = true := by decide +kernel
theorem r27_7 : xrm 27 7 = true := by decide +kernel
theorem r29_27 : xrm 29 27 = true := by decide +kernel
theorem r29_30 : xrm 29 30 = true := by decide +kernel
theorem r29_88 : xrm 29 88 = true := by decide +kernel
theorem r30_19 : xrm 30 19 = true := by decide +kernel
theorem r30_25 : xrm 30 25 = true := by decide +kernel
theorem r30_27 : xrm 30 27 = true := by decide +kernel
theorem r31_19 : xrm 31 19 = true := by decide +kernel
theorem r31_25 : xrm 31 25 = true := by decide +kernel
theorem r32_1 : xrm 32 1 = true := by decide +kernel
theorem r32_77 : xrm 32 77 = true := by decide +kernel
theorem q32 : xrf 32 = 6 ∧ xrl 32 = 135 := by decide +kernel
theorem qf32 : xrf 32 = 6 := q32.1
theorem ql32 : xrl 32 = 135 := q32.2
theorem r33_14 : xrm 33 14 = true := by decide +kernel
theorem r33_82 : xrm 33 82 = true := by decide +kernel
theorem r34_14 : xrm 34 14 = true := by decide +kernel
theorem r34_82 : xrm 34 82 = true := by decide +kernel
theorem q35 : xrf 35 = 1 ∧ xrl 35 = 20 := by decide +kernel
theorem qf35 : xrf 35 = 1 := q35.1
theorem ql35 : xrl 35 = 20 := q35.2
theorem r39_40 : xrm 39 40 = true := by decide +kernel
theorem r39_43 : xrm 39 43 = true := by decide +kernel
theorem r40_41 : xrm 40 41 = true := by decide +kernel
theorem r40_42 : xrm 40 42 = true := by decide +kernel
theorem r42_41 : xrm 42 41 = true := by decide +kernel
theorem r42_88 : xrm 42 88 = true := by decide +kernel
theorem r43_44 : xrm 43 44 = true := by decide +kernel
theorem r44_41 : xrm 44 41 = true := by decide +kernel
theorem r45_41 : xrm 45 41 = true := by decide +kernel
theorem r46_41 : xrm 46 41 = true := by decide +kernel
theorem q47 : xrf 47 = 1 ∧ xrl 47 = 20 := by decide +kernel
theorem qf47 : xrf 47 = 1 := q47.1
theorem ql47 : xrl 47 = 20 := q47.2
theorem r48_187 : xrm 48 187 = true := by decide +kernel
theorem r49_87 : xrm 49 87 = true := by decide +kernel
theorem r50_87 : xrm 50 87 = true := by decide +kernel
theorem q51 : xrf 51 = 1 ∧ xrl 51 = 28 := by decide +kernel
theorem qf51 : xrf 51 = 1 := q51.1
theorem ql51 : xrl 51 = 28 := q51.2
theorem r52_53 : xrm 52 53 = true := by decide +kernel
theorem r52_56 : xrm 52 56 = true := by decide +kernel
theorem r53_54 : xrm 53 54 = true := by decide +kernel
theorem r53_87 : xrm 53 87 = true := by decide +kernel
theorem r54_55 : xrm 54 55 = true := by decide +kernel
theorem r56_54 : xrm 56 54 = true := by decide +kernel
theorem r56_57 : xrm 56 57 = true := by decide +kernel
theorem r56_58 : xrm 56 58 = true := by decide +kernel
theorem r57_55 : xrm 57 55 = true := by decide +kernel
theorem r58_55 : xrm 58 55 = true := by decide +kernel
theorem r59_55 : xrm 59 55 = true := by decide +kernel
theorem r61_1 : xrm 61 1 = true := by decide +kernel
theorem q61 : xrf 61 = 6 ∧ xrl 61 = 135 := by decide +kernel
theorem qf61 : xrf 61 = 6 := q61.1
theorem ql61 : xrl 61 = 135 := q61.2
theorem r62_16 : xrm 62 16 = true := by decide +kernel
theorem r62_20 : xrm 62 20 = true := by decide +kernel
theorem r62_37 : xrm 62 37 = true := by decide +kernel
theorem r62_39 : xrm 62 39 = true := by decide +kernel
theorem r62_43 : xrm 62 43 = true := by decide +kernel
theorem r62_44 : xrm 62 44 = true := by decide +kernel
theorem r62_45 : xrm 62 45 = true := by decide +kernel
theorem r62_46 : xrm 62 46 = true := by decide +kernel
theorem r62_63 : xrm 62 63 = true := by decide +kernel
theorem r63_14 : xrm 63 14 = true := by decide +kernel
theorem r63_15 : xrm 63 15 = true := by decide +kernel
theorem r63_84 : xrm 63 84 = true := by decide +kernel
theorem r68_16 : xrm 68 16 = true := by decide +kernel
theorem r68_20 : xrm 68 20 = true := by decide +kernel
theorem r68_63 : xrm 68 63 = true := by decide +kernel
theorem q68 : xrf 68 = 6 ∧ xrl 68 = 148 := by decide +kernel
theorem qf68 : xrf 68 = 6 := q68.1
theorem ql68 : xrl 68 = 148 := q68.2
theorem q69 : xrf 69 = 1 ∧ xrl 69 = 20 := by decide +kernel
theorem qf69 : xrf 69 = 1 := q69.1
theorem ql69 : xrl 69 = 20 := q69.2
theorem r70_81 : xrm 70 81 = true := by decide +kernel
theorem r73_74 : xrm 73 74 = true := by decide +kernel
theorem q73 : xrf 73 = 2 ∧ xrl 73 = 49 := by decide +kernel
theorem qf73 : xrf 73 = 2 := q73.1
theorem ql73 : xrl 73 = 49 := q73.2
theorem r74_187 : xrm 74 187 = true := by decide +kernel
theorem q74 : xrf 74 = 1 ∧ xrl 74 = 23 := by decide +kernel
theorem qf74 : xrf 74 = 1 := q74.1
theorem ql74 : xrl 74 = 23 := q74.2
theorem q77 : xrf 77 = 1 ∧ xrl 77 = 20 := by decide +kernel
theorem qf77 : xrf 77 = 1 := q77.1
theorem ql77 : xrl 77 = 20 := q77.2
theorem q82 : xrf 82 = 1 ∧ xrl 82 = 28 := by decide +kernel
theorem qf82 : xrf 82 = 1 := q82.1
theorem ql82 : xrl 82 = 28 := q82.2
theorem q83 : xrf 83 = 1 ∧ xrl 83 = 20 := by decide +kernel
theorem qf83 : xrf 83 = 1 := q83.1
theorem ql83 : xrl 83 = 20 := q83.2
theorem r86_1 : xrm 86 1 = true := by decide +kernel
theorem r86_32 : xrm 86 32 = true := by decide +kernel
theorem r86_35 : xrm 86 35 = true := by decide +kernel
theorem r86_61 : xrm 86 61 = true := by decide +kernel
theorem r86_69 : xrm 86 69 = true := by decide +kernel
theorem r86_77 : xrm 86 77 = true := by decide +kernel
theorem q86 : xrf 86 = 7 ∧ xrl 86 = 155 := by decide +kernel
theorem qf86 : xrf 86 = 7 := q86.1
theorem ql86 : xrl 86 = 155 := q86.2
theorem r89_9 : xrm 89 9 = true := by decide +kernel
theorem r89_10 : xrm 89 10 = true := by decide +kernel
theorem r89_11 : xrm 89 11 = true := by decide +kernel
theorem r89_12 : xrm 89 12 = true := by decide +kernel
theorem r89_13 : xrm 89 13 = true := by decide +kernel
theorem r89_88 : xrm 89 88 = true := by decide +kernel
theorem r89_90 : xrm 89 90 = true := by decide +kernel
theorem r91_36 : xrm 91 36 = true := by decide +kernel
theorem r91_37 : xrm 91 37 = true := by decide +kernel
theorem r92_37 : xrm 92 37 = true := by decide +kernel
theorem r92_38 : xrm 92 38 = true := by decide +kernel
theorem r93_39 : xrm 93 39 = true := by decide +kernel
theorem r94_39 : xrm 94 39 = true := by decide +kernel
theorem r94_62 : xrm 94 62 = true := by decide +kernel
theorem r94_64 : xrm 94 64 = true := by decide +kernel
theorem r94_65 : xrm 94 65 = true := by decide +kernel
theorem r95_14 : xrm 95 14 = true := by decide +kernel
theorem r95_38 : xrm 95 38 = true := by decide +kernel
theorem r95_62 : xrm 95 62 = true := by decide +kernel
theorem r95_66 : xrm 95 66 = true := by decide +kernel
theorem r95_67 : xrm 95 67 = true := by decide +kernel
theorem r96_9 : xrm 96 9 = true := by decide +kernel
theorem r96_12 : xrm 96 12 = true := by decide +kernel
theorem r96_19 : xrm 96 19 = true := by decide +kernel
theorem r96_25 : xrm 96 25 = true := by decide +kernel
theorem r96_62 : xrm 96 62 = true := by decide +kernel
theorem r96_66 : xrm 96 66 = true := by decide +kernel
theorem r96_88 : xrm 96 88 = true := by decide +kernel
theorem r97_5 : xrm 97 5 = true := by decide +kernel
theorem r97_62 : xrm 97 62 = true := by decide +kernel
theorem r97_66 : xrm 97 66 = true := by decide +kernel
theorem r97_87 : xrm 97 87 = true := by decide +kernel
theorem r98_5 : xrm 98 5 = true := by decide +kernel
theorem r98_15 : xrm 98 15 = true := by decide +kernel
theorem r98_26 : xrm 98 26 = true := by decide +kernel
theorem r98_62 : xrm 98 62 = true := by decide +kernel
theorem r98_66 : xrm 98 66 = true := by decide +kernel
theorem r99_27 : xrm 99 27 = true := by decide +kernel
theorem r99_100 : xrm 99 100 = true := by decide +kernel
theorem r101_28 : xrm 101 28 = true := by decide +kernel
theorem r101_52 : xrm 101 52 = true := by decide +kernel
theorem r101_57 : xrm 101 57 = true := by decide +kernel
theorem r101_58 : xrm 101 58 = true := by decide +kernel
theorem r101_102 : xrm 101 102 = true := by decide +kernel
theorem r101_103 : xrm 101 103 = true := by decide +kernel
theorem q103 : xrf 103 = 1 ∧ xrl 103 = 21 := by decide +kernel
theorem qf103 : xrf 103 = 1 := q103.1
theorem ql103 : xrl 103 = 21 := q103.2
theorem r104_28 : xrm 104 28 = true := by decide +kernel
theorem r104_52 : xrm 104 52 = true := by decide +kernel
theorem r104_54 : xrm 104 54 = true := by decide +kernel
theorem r105_26 : xrm 105 26 = true := by decide +kernel
theorem r105_29 : xrm 105 29 = true := by decide +kernel
theorem r105_100 : xrm 105 100 = true := by decide +kernel
theorem r106_31 : xrm 106 31 = true := by decide +kernel
theorem r106_88 : xrm 106 88 = true := by decide +kernel
theorem r106_100 : xrm 106 100 = true := by decide +kernel
theorem r106_102 : xrm 106 102 = true := by decide +kernel
theorem r106_103 : xrm 106 103 = true := by decide +kernel
theorem r107_31 : xrm 107 31 = true := by decide +kernel
theorem r107_88 : xrm 107 88 = true := by decide +kernel
theorem r107_100 : xrm 107 100 = true := by decide +kernel
theorem r107_181 : xrm 107 181 = true := by decide +kernel
theorem r107_185 : xrm 107 185 = true := by decide +kernel
theorem r107_186 : xrm 107 186 = true := by decide +kernel
theorem r108_12 : xrm 108 12 = true := by decide +kernel
theorem r108_31 : xrm 108 31 = true := by decide +kernel
theorem r108_100 : xrm 108 100 = true := by decide +kernel
theorem r108_181 : xrm 108 181 = true := by decide +kernel
theorem r108_186 : xrm 108 186 = true := by decide +kernel
theorem r109_78 : xrm 109 78 = true := by decide +kernel
theorem r109_79 : xrm 109 79 = true := by decide +kernel
theorem r109_90 : xrm 109 90 = true := by decide +kernel
theorem r110_79 : xrm 110 79 = true := by decide +kernel
theorem r110_80 : xrm 110 80 = true := by decide +kernel
theorem r111_70 : xrm 111 70 = true := by decide +kernel
theorem r111_71 : xrm 111 71 = true := by decide +kernel
theorem r111_72 : xrm 111 72 = true := by decide +kernel
theorem r112_70 : xrm 112 70 = true := by decide +kernel
theorem r112_73 : xrm 112 73 = true := by decide +kernel
theorem r112_75 : xrm 112 75 = true := by decide +kernel
theorem r112_76 : xrm 112 76 = true := by decide +kernel
theorem r113_19 : xrm 113 19 = true := by decide +kernel
theorem r113_25 : xrm 113 25 = true := by decide +kernel
theorem r113_88 : xrm 113 88 = true := by decide +kernel
theorem r113_102 : xrm 113 102 = true := by decide +kernel
theorem r113_103 : xrm 113 103 = true := by decide +kernel
theorem r114_5 : xrm 114 5 = true := by decide +kernel
theorem r114_15 : xrm 114 15 = true := by decide +kernel
theorem r114_66 : xrm 114 66 = true := by decide +kernel
theorem r114_68 : xrm 114 68 = true := by decide +kernel
theorem r115_33 : xrm 115 33 = true := by decide +kernel
theorem r116_34 : xrm 116 34 = true := by decide +kernel
theorem r117_118 : xrm 117 118 = true := by decide +kernel
theorem r117_119 : xrm 117 119 = true := by decide +kernel
theorem r118_5 : xrm 118 5 = true := by decide +kernel
theorem r118_26 : xrm 118 26 = true := by decide +kernel
theorem r118_28 : xrm 118 28 = true := by decide +kernel
theorem r118_37 : xrm 118 37 = true := by decide +kernel
theorem r118_60 : xrm 118 60 = true := by decide +kernel
theorem r118_79 : xrm 118 79 = true := by decide +kernel
theorem r119_5 : xrm 119 5 = true := by decide +kernel
theorem r119_9 : xrm 119 9 = true := by decide +kernel
theorem r119_11 : xrm 119 11 = true := by decide +kernel
theorem r119_12 : xrm 119 12 = true := by decide +kernel
theorem r119_19 : xrm 119 19 = true := by decide +kernel
theorem r119_87 : xrm 119 87 = true := by decide +kernel
theorem r119_88 : xrm 119 88 = true := by decide +kernel
theorem r120_121 : xrm 120 121 = true := by decide +kernel
theorem r120_127 : xrm 120 127 = true := by decide +kernel
theorem q120 : xrf 120 = 3 ∧ xrl 120 = 70 := by decide +kernel
theorem qf120 : xrf 120 = 3 := q120.1
theorem ql120 : xrl 120 = 70 := q120.2
theorem r121_122 : xrm 121 122 = true := by decide +kernel
theorem r121_124 : xrm 121 124 = true := by decide +kernel
theorem r121_126 : xrm 121 126 = true := by decide +kernel
theorem r122_123 : xrm 122 123 = true := by decide +kernel
theorem r124_125 : xrm 124 125 = true := by decide +kernel
theorem r128_121 : xrm 128 121 = true := by decide +kernel
theorem r128_127 : xrm 128 127 = true := by decide +kernel
theorem r128_129 : xrm 128 129 = true := by decide +kernel
theorem r128_130 : xrm 128 130 = true := by decide +kernel
theorem r128_131 : xrm 128 131 = true := by decide +kernel
theorem r129_130 : xrm 129 130 = true := by decide +kernel
theorem r132_130 : xrm 132 130 = true := by decide +kernel
theorem r134_135 : xrm 134 135 = true := by decide +kernel
theorem r135_136 : xrm 135 136 = true := by decide +kernel
theorem r136_130 : xrm 136 130 = true := by decide +kernel
theorem r137_130 : xrm 137 130 = true := by decide +kernel
theorem r137_135 : xrm 137 135 = true := by decide +kernel
theorem r137_138 : xrm 137 138 = true := by decide +kernel
theorem r138_131 : xrm 138 131 = true := by decide +kernel
theorem r138_139 : xrm 138 139 = true := by decide +kernel
theorem r139_140 : xrm 139 140 = true := by decide +kernel
theorem r139_143 : xrm 139 143 = true := by decide +kernel
theorem r139_144 : xrm 139 144 = true := by decide +kernel
theorem r139_145 : xrm 139 145 = true := by decide +kernel
theorem r140_141 : xrm 140 141 = true := by decide +kernel
theorem r140_142 : xrm 140 142 = true := by decide +kernel
theorem r142_122 : xrm 142 122 = true := by decide +kernel
theorem r142_124 : xrm 142 124 = true := by decide +kernel
theorem r142_126 : xrm 142 126 = true := by decide +kernel
theorem r143_121 : xrm 143 121 = true := by decide +kernel
theorem r143_130 : xrm 143 130 = true := by decide +kernel
theorem r144_121 : xrm 144 121 = true := by decide +kernel
theorem r145_121 : xrm 145 121 = true := by decide +kernel
theorem r146_127 : xrm 146 127 = true := by decide +kernel
theorem r146_147 : xrm 146 147 = true := by decide +kernel
theorem r147_135 : xrm 147 135 = true := by decide +kernel
theorem r147_138 : xrm 147 138 = true := by decide +kernel
theorem r148_129 : xrm 148 129 = true := by decide +kernel
theorem r148_130 : xrm 148 130 = true := by decide +kernel
theorem r148_147 : xrm 148 147 = true := by decide +kernel
theorem r149_130 : xrm 149 130 = true := by decide +kernel
theorem r149_147 : xrm 149 147 = true := by decide +kernel
theorem r150_130 : xrm 150 130 = true := by decide +kernel
theorem r150_147 : xrm 150 147 = true := by decide +kernel
theorem r151_131 : xrm 151 131 = true := by decide +kernel
theorem r151_152 : xrm 151 152 = true := by decide +kernel
theorem r151_153 : xrm 151 153 = true := by decide +kernel
theorem r152_130 : xrm 152 130 = true := by decide +kernel
theorem r153_124 : xrm 153 124 = true := by decide +kernel
theorem r153_154 : xrm 153 154 = true := by decide +kernel
theorem r155_130 : xrm 155 130 = true := by decide +kernel
theorem r155_131 : xrm 155 131 = true := by decide +kernel
theorem r155_156 : xrm 155 156 = true := by decide +kernel
theorem r155_158 : xrm 155 158 = true := by decide +kernel
theorem r156_153 : xrm 156 153 = true := by decide +kernel
theorem r156_157 : xrm 156 157 = true := by decide +kernel
theorem r157_154 : xrm 157 154 = true := by decide +kernel
theorem r159_131 : xrm 159 131 = true := by decide +kernel
theorem r159_156 : xrm 159 156 = true := by decide +kernel
theorem r160_131 : xrm 160 131 = true := by decide +kernel
theorem r160_152 : xrm 160 152 = true := by decide +kernel
theorem r160_153 : xrm 160 153 = true := by decide +kernel
theorem r160_157 : xrm 160 157 = true := by decide +kernel
theorem r161_129 : xrm 161 129 = true := by decide +kernel
theorem r161_130 : xrm 161 130 = true := by decide +kernel
theorem r161_152 : xrm 161 152 = true := by decide +kernel
theorem r161_158 : xrm 161 158 = true := by decide +kernel
theorem r162_129 : xrm 162 129 = true := by decide +kernel
theorem r162_130 : xrm 162 130 = true := by decide +kernel
theorem r162_152 : xrm 162 152 = true := by decide +kernel
theorem r162_163 : xrm 162 163 = true := by decide +kernel
theorem r162_164 : xrm 162 164 = true := by decide +kernel
theorem r162_167 : xrm 162 167 = true := by decide +kernel
theorem r162_168 : xrm 162 168 = true := by decide +kernel
theorem r164_165 : xrm 164 165 = true := by decide +kernel
theorem r165_166 : xrm 165 166 = true := by decide +kernel
theorem r167_166 : xrm 167 166 = true := by decide +kernel
theorem r169_130 : xrm 169 130 = true := by decide +kernel
theorem r169_152 : xrm 169 152 = true := by decide +kernel
theorem r169_164 : xrm 169 164 = true := by decide +kernel
theorem r169_165 : xrm 169 165 = true := by decide +kernel
theorem r169_167 : xrm 169 167 = true := by decide +kernel
theorem r169_168 : xrm 169 168 = true := by decide +kernel
theorem r170_130 : xrm 170 130 = true := by decide +kernel
theorem r172_173 : xrm 172 173 = true := by decide +kernel
theorem r173_130 : xrm 173 130 = true := by decide +kernel
theorem r173_174 : xrm 173 174 = true := by decide +kernel
theorem r175_130 : xrm 175 130 = true := by decide +kernel
theorem r175_173 : xrm 175 173 = true := by decide +kernel
theorem r175_174 : xrm 175 174 = true := by decide +kernel
theorem r176_129 : xrm 176 129 = true := by decide +kernel
theorem r176_130 : xrm 176 130 = true := by decide +kernel
theorem r176_158 : xrm 176 158 = true := by decide +kernel
theorem r177_130 : xrm 177 130 = true := by decide +kernel
theorem r177_131 : xrm 177 131 = true := by decide +kernel
theorem r177_140 : xrm 177 140 = true := by decide +kernel
theorem r177_143 : xrm 177 143 = true := by decide +kernel
theorem r177_144 : xrm 177 144 = true := by decide +kernel
theorem r177_145 : xrm 177 145 = true := by decide +kernel
theorem r178_130 : xrm 178 130 = true := by decide +kernel
theorem r179_130 : xrm 179 130 = true := by decide +kernel
theorem r180_129 : xrm 180 129 = true := by decide +kernel
theorem r180_130 : xrm 180 130 = true := by decide +kernel
theorem r181_182 : xrm 181 182 = true := by decide +kernel
theorem r182_183 : xrm 182 183 = true := by decide +kernel
theorem r182_184 : xrm 182 184 = true := by decide +kernel
theorem q182 : xrf 182 = 1 ∧ xrl 182 = 28 := by decide +kernel
theorem qf182 : xrf 182 = 1 := q182.1
theorem ql182 : xrl 182 = 28 := q182.2
theorem r185_182 : xrm 185 182 = true := by decide +kernel
theorem r186_183 : xrm 186 183 = true := by decide +kernel
theorem r186_184 : xrm 186 184 = true := by decide +kernel
theorem q186 : xrf 186 = 1 ∧ xrl 186 = 28 := by decide +kernel
theorem qf186 : xrf 186 = 1 := q186.1
theorem ql186 : xrl 186 = 28 := q186.2

/-! how many have met j of m, probe by probe: the rows, by program; that each follows from the one ahead is checked -/
def kT1 : List (List Int64) := [[1000000000000, 0], [0, 1000000000000], [0, 1000000000000], [0, 1000000000000], [0, 1000000000000], [0, 1000000000000], [0, 1000000000000], [0, 1000000000000], [0, 1000000000000], [0, 1000000000000], [0, 1000000000000], [0, 1000000000000], [0, 1000000000000], [0, 1000000000000], [0, 1000000000000], [0, 1000000000000], [0, 1000000000000], [0, 1000000000000], [0, 1000000000000], [0, 1000000000000], [0, 1000000000000], [0, 1000000000000], [0, 1000000000000], [0, 1000000000000], [0, 1000000000000], [0, 1000000000000], [0, 1000000000000], [0, 1000000000000], [0, 1000000000000], [0, 1000000000000], [0, 1000000000000], [0, 1000000000000], [0, 1000000000000], [0, 1000000000000], [0, 1000000000000], [0, 1000000000000], [0, 1000000000000], [0, 1000000000000], [0, 1000000000000], [0, 1000000000000], [0, 1000000000000], [0, 1000000000000], [0, 1000000000000], [0, 1000000000000], [0, 1000000000000], [0, 1000000000000], [0, 1000000000000], [0, 1000000000000], [0, 1000000000000], [0, 1000000000000], [0, 1000000000000], [0, 1000000000000], [0, 1000000000000], [0, 1000000000000], [0, 1000000000000], [0, 1000000000000], [0, 1000000000000], [0, 1000000000000], [0, 1000000000000], [0, 1000000000000], [0, 1000000000000]]
def kv1 (i j : Nat) : Int64 := (kT1.getD i []).getD j 0
theorem kvs1_0 : ∀ i, i < 60 → kv1 i 0 * 0 / 1 = kv1 (i + 1) 0 := by decide +kernel
theorem kvs1_1 : ∀ i, i < 60 → kv1 i 1 + (kv1 i 0 - kv1 i 0 * 0 / 1) = kv1 (i + 1) 1 := by decide +kernel
theorem kvz1 : ∀ i, i < 60 → ¬ kv1 i 1 < 1000000000000 → kv1 (i + 1) 1 = kv1 i 1 := by decide +kernel
theorem kvq1 {i : Nat} (h : ¬ kv1 i 1 < 1000000000000) : ∀ d, i + d ≤ 60 → kv1 (i + d) 1 = kv1 i 1 := by
  intro d
  induction d with
  | zero => intro _; rfl
  | succ d ih =>
    intro hd
    have e := ih (by omega)
    have e2 := kvz1 (i + d) (by omega) (by rw [e]; exact h)
    exact e2.trans e
def kT2 : List (List Int64) := [[1000000000000, 0, 0], [0, 1000000000000, 0], [0, 500000000000, 500000000000], [0, 250000000000, 750000000000], [0, 125000000000, 875000000000], [0, 62500000000, 937500000000], [0, 31250000000, 968750000000], [0, 15625000000, 984375000000], [0, 7812500000, 992187500000], [0, 3906250000, 996093750000], [0, 1953125000, 998046875000], [0, 976562500, 999023437500], [0, 488281250, 999511718750], [0, 244140625, 999755859375], [0, 122070312, 999877929688], [0, 61035156, 999938964844], [0, 30517578, 999969482422], [0, 15258789, 999984741211], [0, 7629394, 999992370606], [0, 3814697, 999996185303], [0, 1907348, 999998092652], [0, 953674, 999999046326], [0, 476837, 999999523163], [0, 238418, 999999761582], [0, 119209, 999999880791], [0, 59604, 999999940396], [0, 29802, 999999970198], [0, 14901, 999999985099], [0, 7450, 999999992550], [0, 3725, 999999996275], [0, 1862, 999999998138], [0, 931, 999999999069], [0, 465, 999999999535], [0, 232, 999999999768], [0, 116, 999999999884], [0, 58, 999999999942], [0, 29, 999999999971], [0, 14, 999999999986], [0, 7, 999999999993], [0, 3, 999999999997], [0, 1, 999999999999], [0, 0, 1000000000000], [0, 0, 1000000000000], [0, 0, 1000000000000], [0, 0, 1000000000000], [0, 0, 1000000000000], [0, 0, 1000000000000], [0, 0, 1000000000000], [0, 0, 1000000000000], [0, 0, 1000000000000], [0, 0, 1000000000000], [0, 0, 1000000000000], [0, 0, 1000000000000], [0, 0, 1000000000000], [0, 0, 1000000000000], [0, 0, 1000000000000], [0, 0, 1000000000000], [0, 0, 1000000000000], [0, 0, 1000000000000], [0, 0, 1000000000000], [0, 0, 1000000000000]]
def kv2 (i j : Nat) : Int64 := (kT2.getD i []).getD j 0
theorem kvs2_0 : ∀ i, i < 60 → kv2 i 0 * 0 / 2 = kv2 (i + 1) 0 := by decide +kernel
theorem kvs2_1 : ∀ i, i < 60 → kv2 i 1 * 1 / 2 + (kv2 i 0 - kv2 i 0 * 0 / 2) = kv2 (i + 1) 1 := by decide +kernel
theorem kvs2_2 : ∀ i, i < 60 → kv2 i 2 + (kv2 i 1 - kv2 i 1 * 1 / 2) = kv2 (i + 1) 2 := by decide +kernel
theorem kvz2 : ∀ i, i < 60 → ¬ kv2 i 2 < 1000000000000 → kv2 (i + 1) 2 = kv2 i 2 := by decide +kernel
theorem kvq2 {i : Nat} (h : ¬ kv2 i 2 < 1000000000000) : ∀ d, i + d ≤ 60 → kv2 (i + d) 2 = kv2 i 2 := by
  intro d
  induction d with
  | zero => intro _; rfl
  | succ d ih =>
    intro hd
    have e := ih (by omega)
    have e2 := kvz2 (i + d) (by omega) (by rw [e]; exact h)
    exact e2.trans e
def kT3 : List (List Int64) := [[1000000000000, 0, 0, 0], [0, 1000000000000, 0, 0], [0, 333333333333, 666666666667, 0], [0, 111111111111, 666666666666, 222222222223], [0, 37037037037, 518518518518, 444444444445], [0, 12345679012, 370370370370, 617283950618], [0, 4115226337, 255144032921, 740740740742], [0, 1371742112, 172839506172, 825788751716], [0, 457247370, 116140832190, 883401920440], [0, 152415790, 77732053040, 922115531170], [0, 50805263, 51922979220, 948026215517], [0, 16935087, 34649189656, 965333875257], [0, 5645029, 23110749828, 976883605143], [0, 1881676, 15410929905, 984587188419], [0, 627225, 10275207721, 989724165054], [0, 209075, 6850556630, 993149234295], [0, 69691, 4567177137, 995432753172], [0, 23230, 3044831219, 996955145551], [0, 7743, 2029902966, 997970089291], [0, 2581, 1353273806, 998646723613], [0, 860, 902184258, 999097814882], [0, 286, 601456746, 999398542968], [0, 95, 400971355, 999599028550], [0, 31, 267314300, 999732685669], [0, 10, 178209554, 999821790436], [0, 3, 118806376, 999881193621], [0, 1, 79204252, 999920795747], [0, 0, 52802835, 999947197165], [0, 0, 35201890, 999964798110], [0, 0, 23467926, 999976532074], [0, 0, 15645284, 999984354716], [0, 0, 10430189, 999989569811], [0, 0, 6953459, 999993046541], [0, 0, 4635639, 999995364361], [0, 0, 3090426, 999996909574], [0, 0, 2060284, 999997939716], [0, 0, 1373522, 999998626478], [0, 0, 915681, 999999084319], [0, 0, 610454, 999999389546], [0, 0, 406969, 999999593031], [0, 0, 271312, 999999728688], [0, 0, 180874, 999999819126], [0, 0, 120582, 999999879418], [0, 0, 80388, 999999919612], [0, 0, 53592, 999999946408], [0, 0, 35728, 999999964272], [0, 0, 23818, 999999976182], [0, 0, 15878, 999999984122], [0, 0, 10585, 999999989415], [0, 0, 7056, 999999992944], [0, 0, 4704, 999999995296], [0, 0, 3136, 999999996864], [0, 0, 2090, 999999997910], [0, 0, 1393, 999999998607], [0, 0, 928, 999999999072], [0, 0, 618, 999999999382], [0, 0, 412, 999999999588], [0, 0, 274, 999999999726], [0, 0, 182, 999999999818], [0, 0, 121, 999999999879], [0, 0, 80, 999999999920]]
def kv3 (i j : Nat) : Int64 := (kT3.getD i []).getD j 0
theorem kvs3_0 : ∀ i, i < 60 → kv3 i 0 * 0 / 3 = kv3 (i + 1) 0 := by decide +kernel
theorem kvs3_1 : ∀ i, i < 60 → kv3 i 1 * 1 / 3 + (kv3 i 0 - kv3 i 0 * 0 / 3) = kv3 (i + 1) 1 := by decide +kernel
theorem kvs3_2 : ∀ i, i < 60 → kv3 i 2 * 2 / 3 + (kv3 i 1 - kv3 i 1 * 1 / 3) = kv3 (i + 1) 2 := by decide +kernel
theorem kvs3_3 : ∀ i, i < 60 → kv3 i 3 + (kv3 i 2 - kv3 i 2 * 2 / 3) = kv3 (i + 1) 3 := by decide +kernel
theorem kvz3 : ∀ i, i < 60 → ¬ kv3 i 3 < 1000000000000 → kv3 (i + 1) 3 = kv3 i 3 := by decide +kernel
theorem kvq3 {i : Nat} (h : ¬ kv3 i 3 < 1000000000000) : ∀ d, i + d ≤ 60 → kv3 (i + d) 3 = kv3 i 3 := by
  intro d
  induction d with
  | zero => intro _; rfl
  | succ d ih =>
    intro hd
    have e := ih (by omega)
    have e2 := kvz3 (i + d) (by omega) (by rw [e]; exact h)
    exact e2.trans e
def kT4 : List (List Int64) := [[1000000000000, 0, 0, 0, 0], [0, 1000000000000, 0, 0, 0], [0, 250000000000, 750000000000, 0, 0], [0, 62500000000, 562500000000, 375000000000, 0], [0, 15625000000, 328125000000, 562500000000, 93750000000], [0, 3906250000, 175781250000, 585937500000, 234375000000], [0, 976562500, 90820312500, 527343750000, 380859375000], [0, 244140625, 46142578125, 440917968750, 512695312500], [0, 61035156, 23254394531, 353759765625, 622924804688], [0, 15258789, 11672973632, 276947021484, 711364746095], [0, 3814697, 5847930908, 213546752929, 780601501466], [0, 953674, 2926826477, 163084030150, 833988189699], [0, 238418, 1464128494, 123776435851, 874759197237], [0, 59604, 732243061, 93564391135, 905703306200], [0, 14901, 366166233, 70539414882, 929094403984], [0, 3725, 183094292, 53087644278, 946729257705], [0, 931, 91549940, 39907280354, 960001168775], [0, 232, 45775669, 29976235235, 969977988864], [0, 58, 22888008, 22505064261, 977472047673], [0, 14, 11444048, 16890242199, 983098313739], [0, 3, 5722035, 12673403673, 987320874289], [0, 0, 2861020, 9507913772, 990489225208], [0, 0, 1430510, 7132365839, 992866203651], [0, 0, 715255, 5349989634, 994649295111], [0, 0, 357627, 4012849853, 995986792520], [0, 0, 178813, 3009816203, 996990004984], [0, 0, 89406, 2257451559, 997742459035], [0, 0, 44703, 1693133372, 998306821925], [0, 0, 22351, 1269872381, 998730105268], [0, 0, 11175, 952415461, 999047573364], [0, 0, 5587, 714317183, 999285677230], [0, 0, 2793, 535740681, 999464256526], [0, 0, 1396, 401806907, 999598191697], [0, 0, 698, 301355878, 999698643424], [0, 0, 349, 226017257, 999773982394], [0, 0, 174, 169513117, 999830486709], [0, 0, 87, 127134924, 999872864989], [0, 0, 43, 95351237, 999904648720], [0, 0, 21, 71513449, 999928486530], [0, 0, 10, 53635097, 999946364893], [0, 0, 5, 40226327, 999959773668], [0, 0, 2, 30169748, 999969830250], [0, 0, 1, 22627312, 999977372687], [0, 0, 0, 16970485, 999983029515], [0, 0, 0, 12727863, 999987272137], [0, 0, 0, 9545897, 999990454103], [0, 0, 0, 7159422, 999992840578], [0, 0, 0, 5369566, 999994630434], [0, 0, 0, 4027174, 999995972826], [0, 0, 0, 3020380, 999996979620], [0, 0, 0, 2265285, 999997734715], [0, 0, 0, 1698963, 999998301037], [0, 0, 0, 1274222, 999998725778], [0, 0, 0, 955666, 999999044334], [0, 0, 0, 716749, 999999283251], [0, 0, 0, 537561, 999999462439], [0, 0, 0, 403170, 999999596830], [0, 0, 0, 302377, 999999697623], [0, 0, 0, 226782, 999999773218], [0, 0, 0, 170086, 999999829914], [0, 0, 0, 127564, 999999872436]]
def kv4 (i j : Nat) : Int64 := (kT4.getD i []).getD j 0
theorem kvs4_0 : ∀ i, i < 60 → kv4 i 0 * 0 / 4 = kv4 (i + 1) 0 := by decide +kernel
theorem kvs4_1 : ∀ i, i < 60 → kv4 i 1 * 1 / 4 + (kv4 i 0 - kv4 i 0 * 0 / 4) = kv4 (i + 1) 1 := by decide +kernel
theorem kvs4_2 : ∀ i, i < 60 → kv4 i 2 * 2 / 4 + (kv4 i 1 - kv4 i 1 * 1 / 4) = kv4 (i + 1) 2 := by decide +kernel
theorem kvs4_3 : ∀ i, i < 60 → kv4 i 3 * 3 / 4 + (kv4 i 2 - kv4 i 2 * 2 / 4) = kv4 (i + 1) 3 := by decide +kernel
theorem kvs4_4 : ∀ i, i < 60 → kv4 i 4 + (kv4 i 3 - kv4 i 3 * 3 / 4) = kv4 (i + 1) 4 := by decide +kernel
theorem kvz4 : ∀ i, i < 60 → ¬ kv4 i 4 < 1000000000000 → kv4 (i + 1) 4 = kv4 i 4 := by decide +kernel
theorem kvq4 {i : Nat} (h : ¬ kv4 i 4 < 1000000000000) : ∀ d, i + d ≤ 60 → kv4 (i + d) 4 = kv4 i 4 := by
  intro d
  induction d with
  | zero => intro _; rfl
  | succ d ih =>
    intro hd
    have e := ih (by omega)
    have e2 := kvz4 (i + d) (by omega) (by rw [e]; exact h)
    exact e2.trans e
def kT5 : List (List Int64) := [[1000000000000, 0, 0, 0, 0, 0], [0, 1000000000000, 0, 0, 0, 0], [0, 200000000000, 800000000000, 0, 0, 0], [0, 40000000000, 480000000000, 480000000000, 0, 0], [0, 8000000000, 224000000000, 576000000000, 192000000000, 0], [0, 1600000000, 96000000000, 480000000000, 384000000000, 38400000000], [0, 320000000, 39680000000, 345600000000, 499200000000, 115200000000], [0, 64000000, 16128000000, 231168000000, 537600000000, 215040000000], [0, 12800000, 6502400000, 148377600000, 522547200000, 322560000000], [0, 2560000, 2611200000, 92928000000, 477388800000, 427069440000], [0, 512000, 1046528000, 57323520000, 419082240000, 522547200000], [0, 102400, 419020800, 35022028800, 358195200000, 606363648000], [0, 20480, 167690240, 21264629760, 300564971520, 678002688000], [0, 4096, 67092480, 12859392000, 248957829120, 738115682304], [0, 819, 26840269, 7755890688, 204310020096, 787907248128], [0, 163, 10736763, 4669638574, 166550372352, 828769252148], [0, 32, 4294836, 2808225202, 135108153311, 862079326619], [0, 6, 1717960, 1687512023, 109209812729, 889100957282], [0, 1, 687189, 1013537989, 88042854993, 910942919828], [0, 0, 274876, 608535107, 70839699190, 928551490827], [0, 0, 109950, 365285990, 56915173395, 942719430665], [0, 0, 43980, 219237564, 45678253112, 954102465344], [0, 0, 17592, 131568926, 36630297515, 963238115967], [0, 0, 7036, 78951911, 29356865583, 970564175470], [0, 0, 2814, 47375368, 23517073231, 976435548587], [0, 0, 1125, 28426909, 18832608732, 981138963234], [0, 0, 450, 17056820, 15077457749, 984905484981], [0, 0, 180, 10234362, 12068788927, 987920976531], [0, 0, 72, 6140725, 9659124886, 990334734317], [0, 0, 28, 3684479, 7729756198, 992266559295], [0, 0, 11, 2210704, 6185278750, 993812510535], [0, 0, 4, 1326429, 4949107282, 995049566285], [0, 0, 1, 795860, 3959816397, 996039387742], [0, 0, 0, 477517, 3168171461, 996831351022], [0, 0, 0, 286510, 2534728175, 997464985315], [0, 0, 0, 171906, 2027897144, 997971930950], [0, 0, 0, 103143, 1622386478, 998377510379], [0, 0, 0, 61885, 1297950440, 998701987675], [0, 0, 0, 37131, 1038385106, 998961577763], [0, 0, 0, 22278, 830722937, 999169254785], [0, 0, 0, 13366, 664587261, 999335399373], [0, 0, 0, 8019, 531675155, 999468316826], [0, 0, 0, 4811, 425343332, 999574651857], [0, 0, 0, 2886, 340276590, 999659720524], [0, 0, 0, 1731, 272222427, 999727775842], [0, 0, 0, 1038, 217778634, 999782220328], [0, 0, 0, 622, 174223323, 999825776055], [0, 0, 0, 373, 139378907, 999860620720], [0, 0, 0, 223, 111503275, 999888496502], [0, 0, 0, 133, 89202710, 999910797157], [0, 0, 0, 79, 71362222, 999928637699], [0, 0, 0, 47, 57089809, 999942910144], [0, 0, 0, 28, 45671866, 999954328106], [0, 0, 0, 16, 36537504, 999963462480], [0, 0, 0, 9, 29230010, 999970769981], [0, 0, 0, 5, 23384012, 999976615983], [0, 0, 0, 3, 18707211, 999981292786], [0, 0, 0, 1, 14965770, 999985034229], [0, 0, 0, 0, 11972617, 999988027383], [0, 0, 0, 0, 9578093, 999990421907], [0, 0, 0, 0, 7662474, 999992337526]]
def kv5 (i j : Nat) : Int64 := (kT5.getD i []).getD j 0
theorem kvs5_0 : ∀ i, i < 60 → kv5 i 0 * 0 / 5 = kv5 (i + 1) 0 := by decide +kernel
theorem kvs5_1 : ∀ i, i < 60 → kv5 i 1 * 1 / 5 + (kv5 i 0 - kv5 i 0 * 0 / 5) = kv5 (i + 1) 1 := by decide +kernel
theorem kvs5_2 : ∀ i, i < 60 → kv5 i 2 * 2 / 5 + (kv5 i 1 - kv5 i 1 * 1 / 5) = kv5 (i + 1) 2 := by decide +kernel
theorem kvs5_3 : ∀ i, i < 60 → kv5 i 3 * 3 / 5 + (kv5 i 2 - kv5 i 2 * 2 / 5) = kv5 (i + 1) 3 := by decide +kernel
theorem kvs5_4 : ∀ i, i < 60 → kv5 i 4 * 4 / 5 + (kv5 i 3 - kv5 i 3 * 3 / 5) = kv5 (i + 1) 4 := by decide +kernel
theorem kvs5_5 : ∀ i, i < 60 → kv5 i 5 + (kv5 i 4 - kv5 i 4 * 4 / 5) = kv5 (i + 1) 5 := by decide +kernel
theorem kvz5 : ∀ i, i < 60 → ¬ kv5 i 5 < 1000000000000 → kv5 (i + 1) 5 = kv5 i 5 := by decide +kernel
theorem kvq5 {i : Nat} (h : ¬ kv5 i 5 < 1000000000000) : ∀ d, i + d ≤ 60 → kv5 (i + d) 5 = kv5 i 5 := by
  intro d
  induction d with
  | zero => intro _; rfl
  | succ d ih =>
    intro hd
    have e := ih (by omega)
    have e2 := kvz5 (i + d) (by omega) (by rw [e]; exact h)
    exact e2.trans e
theorem kn_cmp {x y : Int64} (h : 0 ≤ lg_cmp x y) : ¬ x < y := by
  intro q
  have q1 := Int64.lt_iff_toInt_lt.mp q
  have h1 : ¬ y < x := fun w => by
    have w1 := Int64.lt_iff_toInt_lt.mp w
    omega
  have h2 : ¬ x = y := fun w => by
    rw [w] at q1
    omega
  have h3 : lg_cmp x y = -1 := by simp [lg_cmp, h1, h2]
  rw [h3] at h
  exact absurd h (by decide)
def rm_k4_begin_1 : Room := { frames := 0, cells := 0, slots := 0, locals := 0 }
set_option maxHeartbeats 4000000 in
set_option maxRecDepth 100000 in
theorem k4_begin_1 (l : Launch) (dC : Nat → ClassId) (dI : Nat → Nat → Nat) (kB kI kJ kZ kC kS : ClassId) (sz : Nat) (xa38 : Nat) (xa39 : Nat) (xa40 : Nat) (f1 : Nat → Int64) : Met l yX4_begin wsX4_begin rm_k4_begin_1 (va_Pc [.ref xa38, .int 1] (fun U => U.heap.size = sz ∧ va_P (dC, dI) vwCl [(xa38, .inr (4, [.ref xa39, .ref xa40, .int 0])), (xa39, .inl (kJ, 23, .inr (.inl f1)))] U.heap ∧ kE dC dI kB kI kJ kZ kC kS U ∧ va_D (fun _ => True) [(xa38, .inr (4, [.ref xa39, .ref xa40, .int 0])), (xa39, .inl (kJ, 23, .inr (.inl f1)))])) (va_Qv (fun (_ : Unit) => True) (fun _ t => ∃ (g1 : Nat → Int64), g1 0 = kv1 0 0 ∧ g1 1 = kv1 0 1 ∧ va_P (dC, dI) vwCl [(xa38, .inr (4, [.ref xa39, .ref xa40, .int 0])), (xa39, .inl (kJ, 23, .inr (.inl g1)))] t.heap ∧ va_D (va_A [(xa38, .inr (4, [.ref xa39, .ref xa40, .int 0])), (xa39, .inl (kJ, 23, .inr (.inl f1)))] sz) [(xa38, .inr (4, [.ref xa39, .ref xa40, .int 0])), (xa39, .inl (kJ, 23, .inr (.inl g1)))]) (va_A [(xa38, .inr (4, [.ref xa39, .ref xa40, .int 0])), (xa39, .inl (kJ, 23, .inr (.inl f1)))] sz)) 0 0 (va_A [(xa38, .inr (4, [.ref xa39, .ref xa40, .int 0])), (xa39, .inl (kJ, 23, .inr (.inl f1)))] sz) := by
  refine Met.ofW (cc := cX4_begin) (maxL := 3) (ret := none) (by decide) rfl ?_
  intro p e s m args0 below meth c s₁ B hml hv
  obtain ⟨hargs, hsz, hP, hE, hD0⟩ := hv
  have hx := B.exec
  have hb := B.bytes
  have hr := B.returns
  have hts := atoms_spec (ws := wsX4_begin) B.pre
  have hown : s.vm.findClass RX4 = some m.cls := findClass_of_methodNamed B.named
  have hlocks := B.notSynchronized
  have hK := hE.1
  have hin4 : ∀ w ∈ wsX40, w ∈ wsX4_begin := fun _ h9 => List.mem_cons_of_mem _ (List.mem_append_right _ h9)
  subst hsz
  have hD := hD0.self (sz := s.heap.size)
  generalize hAe : va_A [(xa38, .inr (4, [.ref xa39, .ref xa40, .int 0])), (xa39, .inl (kJ, 23, .inr (.inl f1)))] s.heap.size = A at hD ⊢
  have hA : ∀ q : Nat, s.heap.size ≤ q → A q := fun q h => by rw [← hAe]; exact Or.inr h
  have hS : va_S A s.heap s.heap [] := va_S.rf
  have hP : va_P (dC, dI) vwCl [(xa38, .inr (4, [.ref xa39, .ref xa40, .int 0])), (xa39, .inl (kJ, 23, .inr (.inl f1)))] s.heap := hP
  have hl := lv_entry ([.ref xa38, .int 1]) (n := 3) (Nat.le_of_ble_eq_true rfl)
  have hla : entryFrame m args0 3 = entryFrame m ([.ref xa38, .int 1] : List Value).toArray 3 := by rw [hargs]
  rw [hla, lg_entry_eq]
  generalize (lg_sl ([.ref xa38, .int 1]) ++ List.replicate (3 - (lg_sl ([.ref xa38, .int 1])).length) Slot.unset).toArray = ls at hl ⊢
  have hl : lv_has ls 3 [(0, .ref xa38), (1, .int 1)] := hl
  refine lv_aload_n hx hb dX4_begin_0 rfl (lv_at hl 0 rfl) ?_
  refine va_get (D := (dC, dI)) (ci := 4) (v := .ref xa39) (C := RX4) (T := TX4) (N := 3) hx hb hts hin4 hown hK hP 0 rfl rfl 0 (by decide) (hts (.fieldLink RX4 9 "PathProber$Odds" "met" "[J") (List.mem_of_getElem? (i := 1) (by decide +kernel))) (fun _ h9 => h9) rfl dX4_begin_1 ?_
  refine lv_iconst (v := 0) hx hb dX4_begin_4 (by decide) ?_
  refine lv_ldc2 hx hb hown (hts (.constantLong RX4 23 (1000000000000)) (List.mem_of_getElem? (i := 2) (by decide +kernel))) dX4_begin_5 ?_
  refine va_last hx hb hK hP hD hS 1 2 rfl rfl (vp_in_nI (n := 0) (by decide) (by decide)) dX4_begin_8 (fun H locs hP hD hS => ?_)
  have hP : va_P (dC, dI) vwCl [(xa38, .inr (4, [.ref xa39, .ref xa40, .int 0])), (xa39, .inl (kJ, 23, .inr (.inl (vp_updL f1 0 1000000000000))))] H := hP
  have hD : va_D A [(xa38, .inr (4, [.ref xa39, .ref xa40, .int 0])), (xa39, .inl (kJ, 23, .inr (.inl (vp_updL f1 0 1000000000000))))] := hD
  refine lv_iconst (v := 1) hx hb dX4_begin_9 (by decide) ?_
  refine lv_istore_n (lv' := [(2, .int 1), (0, .ref xa38), (1, .int 1)]) hx hb dX4_begin_10 rfl hl (by decide) rfl (fun ls hl => ?_)
  refine lv_iload_n hx hb dX4_begin_11 rfl (lv_at hl 0 rfl) ?_
  refine lv_iload_n hx hb dX4_begin_12 rfl (lv_at hl 2 rfl) ?_
  refine lv_icmp_gt (tgt := 29) hx hb dX4_begin_13 (by decide) (fun c9 => absurd c9 (by decide)) (fun _ => ?_)
  refine lv_aload_n hx hb dX4_begin_16 rfl (lv_at hl 1 rfl) ?_
  refine va_get (D := (dC, dI)) (ci := 4) (v := .ref xa39) (C := RX4) (T := TX4) (N := 3) hx hb hts hin4 hown hK hP 0 rfl rfl 0 (by decide) (hts (.fieldLink RX4 9 "PathProber$Odds" "met" "[J") (List.mem_of_getElem? (i := 1) (by decide +kernel))) (fun _ h9 => h9) rfl dX4_begin_17 ?_
  refine lv_iload_n hx hb dX4_begin_20 rfl (lv_at hl 0 rfl) ?_
  refine lv_lconst (v := 0) hx hb dX4_begin_21 (by decide) ?_
  refine va_last hx hb hK hP hD hS 1 2 rfl rfl (vp_in_nI (n := 1) (by decide) (by decide)) dX4_begin_22 (fun H locs hP hD hS => ?_)
  have hP : va_P (dC, dI) vwCl [(xa38, .inr (4, [.ref xa39, .ref xa40, .int 0])), (xa39, .inl (kJ, 23, .inr (.inl (vp_updL (vp_updL f1 0 1000000000000) 1 0))))] H := hP
  have hD : va_D A [(xa38, .inr (4, [.ref xa39, .ref xa40, .int 0])), (xa39, .inl (kJ, 23, .inr (.inl (vp_updL (vp_updL f1 0 1000000000000) 1 0))))] := hD
  refine lv_iinc (v := 2) (lv' := [(2, .int 2), (0, .ref xa38), (1, .int 1)]) hx hb dX4_begin_23 hl (k := 0) rfl (by decide) (by decide) rfl (fun ls hl => ?_)
  refine lv_goto (tgt := 11) hx hb dX4_begin_26 (by decide) ?_
  refine lv_iload_n hx hb dX4_begin_11 rfl (lv_at hl 0 rfl) ?_
  refine lv_iload_n hx hb dX4_begin_12 rfl (lv_at hl 2 rfl) ?_
  refine lv_icmp_gt (tgt := 29) hx hb dX4_begin_13 (by decide) (fun _ => ?_) (fun c9 => absurd (by decide) c9)
  have hP9 := hP.sub (ws' := [(xa38, .inr (4, [.ref xa39, .ref xa40, .int 0])), (xa39, .inl (kJ, 23, .inr (.inl (vp_updL (vp_updL f1 0 1000000000000) 1 0))))]) [0, 1] rfl
  have hD9 := hD.sub (ws' := [(xa38, .inr (4, [.ref xa39, .ref xa40, .int 0])), (xa39, .inl (kJ, 23, .inr (.inl (vp_updL (vp_updL f1 0 1000000000000) 1 0))))]) [0, 1] (by decide) rfl
  exact W.vret hx hb hr (fun t ht hW => ⟨⟨(), rfl, trivial, vp_updL (vp_updL f1 0 1000000000000) 1 0, rfl, rfl, by rw [ht]; exact hP9, hD9⟩, hS.F ht⟩) hS.2.2 dX4_begin_29
def rm_k4_sendNext_1 : Room := { frames := 0, cells := 0, slots := 0, locals := 0 }
set_option maxHeartbeats 4000000 in
set_option maxRecDepth 100000 in
theorem k4_sendNext_1 (l : Launch) (dC : Nat → ClassId) (dI : Nat → Nat → Nat) (kB kI kJ kZ kC kS : ClassId) (sz : Nat) (xa38 : Nat) (xa39 : Nat) (xa40 : Nat) (f1 : Nat → Int64) : Met l yX4_sendNext wsX4_sendNext rm_k4_sendNext_1 (va_Pc [.ref xa38, .int 1] (fun U => U.heap.size = sz ∧ va_P (dC, dI) vwCl [(xa38, .inr (4, [.ref xa39, .ref xa40, .int 0])), (xa39, .inl (kJ, 23, .inr (.inl f1)))] U.heap ∧ kE dC dI kB kI kJ kZ kC kS U ∧ va_D (fun _ => True) [(xa38, .inr (4, [.ref xa39, .ref xa40, .int 0])), (xa39, .inl (kJ, 23, .inr (.inl f1)))])) (va_Qv (fun (_ : Unit) => True) (fun _ t => ∃ (g1 : Nat → Int64), g1 0 = f1 0 * 0 / 1 ∧ g1 1 = f1 1 + (f1 0 - f1 0 * 0 / 1) ∧ va_P (dC, dI) vwCl [(xa38, .inr (4, [.ref xa39, .ref xa40, .int 0])), (xa39, .inl (kJ, 23, .inr (.inl g1)))] t.heap ∧ va_D (va_A [(xa38, .inr (4, [.ref xa39, .ref xa40, .int 0])), (xa39, .inl (kJ, 23, .inr (.inl f1)))] sz) [(xa38, .inr (4, [.ref xa39, .ref xa40, .int 0])), (xa39, .inl (kJ, 23, .inr (.inl g1)))]) (va_A [(xa38, .inr (4, [.ref xa39, .ref xa40, .int 0])), (xa39, .inl (kJ, 23, .inr (.inl f1)))] sz)) 0 0 (va_A [(xa38, .inr (4, [.ref xa39, .ref xa40, .int 0])), (xa39, .inl (kJ, 23, .inr (.inl f1)))] sz) := by
  refine Met.ofW (cc := cX4_sendNext) (maxL := 5) (ret := none) (by decide) rfl ?_
  intro p e s m args0 below meth c s₁ B hml hv
  obtain ⟨hargs, hsz, hP, hE, hD0⟩ := hv
  have hx := B.exec
  have hb := B.bytes
  have hr := B.returns
  have hts := atoms_spec (ws := wsX4_sendNext) B.pre
  have hown : s.vm.findClass RX4 = some m.cls := findClass_of_methodNamed B.named
  have hlocks := B.notSynchronized
  have hK := hE.1
  have hin4 : ∀ w ∈ wsX40, w ∈ wsX4_sendNext := fun _ h9 => List.mem_cons_of_mem _ (List.mem_append_right _ h9)
  subst hsz
  have hD := hD0.self (sz := s.heap.size)
  generalize hAe : va_A [(xa38, .inr (4, [.ref xa39, .ref xa40, .int 0])), (xa39, .inl (kJ, 23, .inr (.inl f1)))] s.heap.size = A at hD ⊢
  have hA : ∀ q : Nat, s.heap.size ≤ q → A q := fun q h => by rw [← hAe]; exact Or.inr h
  have hS : va_S A s.heap s.heap [] := va_S.rf
  have hP : va_P (dC, dI) vwCl [(xa38, .inr (4, [.ref xa39, .ref xa40, .int 0])), (xa39, .inl (kJ, 23, .inr (.inl f1)))] s.heap := hP
  have hl := lv_entry ([.ref xa38, .int 1]) (n := 5) (Nat.le_of_ble_eq_true rfl)
  have hla : entryFrame m args0 5 = entryFrame m ([.ref xa38, .int 1] : List Value).toArray 5 := by rw [hargs]
  rw [hla, lg_entry_eq]
  generalize (lg_sl ([.ref xa38, .int 1]) ++ List.replicate (5 - (lg_sl ([.ref xa38, .int 1])).length) Slot.unset).toArray = ls at hl ⊢
  have hl : lv_has ls 5 [(0, .ref xa38), (1, .int 1)] := hl
  refine lv_iload_n hx hb dX4_sendNext_0 rfl (lv_at hl 1 rfl) ?_
  refine lv_iconst (v := 1) hx hb dX4_sendNext_1 (by decide) ?_
  refine lv_icmp_lt (tgt := 14) hx hb dX4_sendNext_2 (by decide) (fun c9 => absurd c9 (by decide)) (fun _ => ?_)
  refine lv_iload_n hx hb dX4_sendNext_5 rfl (lv_at hl 1 rfl) ?_
  refine lv_aload_n hx hb dX4_sendNext_6 rfl (lv_at hl 0 rfl) ?_
  refine va_get (D := (dC, dI)) (ci := 4) (v := .ref xa39) (C := RX4) (T := TX4) (N := 3) hx hb hts hin4 hown hK hP 0 rfl rfl 0 (by decide) (hts (.fieldLink RX4 9 "PathProber$Odds" "met" "[J") (List.mem_of_getElem? (i := 1) (by decide +kernel))) (fun _ h9 => h9) rfl dX4_sendNext_7 ?_
  refine va_alen (v := 23) hx hb hK hP 1 2 rfl rfl rfl dX4_sendNext_10 ?_
  refine lv_icmp_lt (tgt := 15) hx hb dX4_sendNext_11 (by decide) (fun _ => ?_) (fun c9 => absurd (by decide) c9)
  refine lv_iload_n hx hb dX4_sendNext_15 rfl (lv_at hl 1 rfl) ?_
  refine lv_iconst (v := 1) hx hb dX4_sendNext_16 (by decide) ?_
  refine lv_isub hx hb dX4_sendNext_17 ?_
  refine lv_topi (fun z1 e2 => ?_)
  obtain rfl : z1 = (0 : Int32) := e2.trans (by decide)
  refine lv_istore_n (lv' := [(2, .int 0), (0, .ref xa38), (1, .int 1)]) hx hb dX4_sendNext_18 rfl hl (by decide) rfl (fun ls hl => ?_)
  refine lv_iload_n hx hb dX4_sendNext_19 rfl (lv_at hl 0 rfl) ?_
  refine lv_if_lt (tgt := 68) hx hb dX4_sendNext_20 (by decide) (fun c9 => absurd c9 (by decide)) (fun _ => ?_)
  refine lv_aload_n hx hb dX4_sendNext_23 rfl (lv_at hl 1 rfl) ?_
  refine va_get (D := (dC, dI)) (ci := 4) (v := .ref xa39) (C := RX4) (T := TX4) (N := 3) hx hb hts hin4 hown hK hP 0 rfl rfl 0 (by decide) (hts (.fieldLink RX4 9 "PathProber$Odds" "met" "[J") (List.mem_of_getElem? (i := 1) (by decide +kernel))) (fun _ h9 => h9) rfl dX4_sendNext_24 ?_
  refine lv_iload_n hx hb dX4_sendNext_27 rfl (lv_at hl 0 rfl) ?_
  refine va_lald hx hb hK hP 1 2 rfl rfl (vp_in_nI (n := 0) (by decide) (by decide)) dX4_sendNext_28 ?_
  refine lv_topl (fun z3 e4 => ?_)
  obtain rfl : z3 = (f1 0 : Int64) := e4
  refine lv_iload_n hx hb dX4_sendNext_29 rfl (lv_at hl 0 rfl) ?_
  refine lv_i2l (v := 0) hx hb dX4_sendNext_30 (by decide) ?_
  refine lv_lmul hx hb dX4_sendNext_31 ?_
  refine lv_iload_n hx hb dX4_sendNext_32 rfl (lv_at hl 2 rfl) ?_
  refine lv_i2l (v := 1) hx hb dX4_sendNext_33 (by decide) ?_
  refine lv_ldiv hx hb dX4_sendNext_34 (by decide) ?_
  refine lv_lstore_n (lv' := [(3, .long (((f1 0) * 0) / 1)), (2, .int 0), (0, .ref xa38), (1, .int 1)]) hx hb dX4_sendNext_35 rfl hl (by decide) rfl (fun ls hl => ?_)
  refine lv_aload_n hx hb dX4_sendNext_36 rfl (lv_at hl 2 rfl) ?_
  refine va_get (D := (dC, dI)) (ci := 4) (v := .ref xa39) (C := RX4) (T := TX4) (N := 3) hx hb hts hin4 hown hK hP 0 rfl rfl 0 (by decide) (hts (.fieldLink RX4 9 "PathProber$Odds" "met" "[J") (List.mem_of_getElem? (i := 1) (by decide +kernel))) (fun _ h9 => h9) rfl dX4_sendNext_37 ?_
  refine lv_iload_n hx hb dX4_sendNext_40 rfl (lv_at hl 1 rfl) ?_
  refine lv_iconst (v := 1) hx hb dX4_sendNext_41 (by decide) ?_
  refine lv_iadd hx hb dX4_sendNext_42 ?_
  refine lv_topi (fun z5 e6 => ?_)
  obtain rfl : z5 = (1 : Int32) := e6.trans (by decide)
  refine lv_dup2_11 hx hb dX4_sendNext_43 rfl rfl ?_
  refine va_lald hx hb hK hP 1 2 rfl rfl (vp_in_nI (n := 1) (by decide) (by decide)) dX4_sendNext_44 ?_
  refine lv_topl (fun z7 e8 => ?_)
  obtain rfl : z7 = (f1 1 : Int64) := e8
  refine lv_aload_n hx hb dX4_sendNext_45 rfl (lv_at hl 2 rfl) ?_
  refine va_get (D := (dC, dI)) (ci := 4) (v := .ref xa39) (C := RX4) (T := TX4) (N := 3) hx hb hts hin4 hown hK hP 0 rfl rfl 0 (by decide) (hts (.fieldLink RX4 9 "PathProber$Odds" "met" "[J") (List.mem_of_getElem? (i := 1) (by decide +kernel))) (fun _ h9 => h9) rfl dX4_sendNext_46 ?_
  refine lv_iload_n hx hb dX4_sendNext_49 rfl (lv_at hl 1 rfl) ?_
  refine va_lald hx hb hK hP 1 2 rfl rfl (vp_in_nI (n := 0) (by decide) (by decide)) dX4_sendNext_50 ?_
  refine lv_topl (fun z9 e10 => ?_)
  obtain rfl : z9 = (f1 0 : Int64) := e10
  refine lv_lload_n hx hb dX4_sendNext_51 rfl (lv_at hl 0 rfl) ?_
  refine lv_lsub hx hb dX4_sendNext_52 ?_
  refine lv_ladd hx hb dX4_sendNext_53 ?_
  refine va_last hx hb hK hP hD hS 1 2 rfl rfl (vp_in_nI (n := 1) (by decide) (by decide)) dX4_sendNext_54 (fun H locs hP hD hS => ?_)
  have hP : va_P (dC, dI) vwCl [(xa38, .inr (4, [.ref xa39, .ref xa40, .int 0])), (xa39, .inl (kJ, 23, .inr (.inl (vp_updL f1 1 ((f1 1) + ((f1 0) - (((f1 0) * 0) / 1)))))))] H := hP
  have hD : va_D A [(xa38, .inr (4, [.ref xa39, .ref xa40, .int 0])), (xa39, .inl (kJ, 23, .inr (.inl (vp_updL f1 1 ((f1 1) + ((f1 0) - (((f1 0) * 0) / 1)))))))] := hD
  refine lv_aload_n hx hb dX4_sendNext_55 rfl (lv_at hl 2 rfl) ?_
  refine va_get (D := (dC, dI)) (ci := 4) (v := .ref xa39) (C := RX4) (T := TX4) (N := 3) hx hb hts hin4 hown hK hP 0 rfl rfl 0 (by decide) (hts (.fieldLink RX4 9 "PathProber$Odds" "met" "[J") (List.mem_of_getElem? (i := 1) (by decide +kernel))) (fun _ h9 => h9) rfl dX4_sendNext_56 ?_
  refine lv_iload_n hx hb dX4_sendNext_59 rfl (lv_at hl 1 rfl) ?_
  refine lv_lload_n hx hb dX4_sendNext_60 rfl (lv_at hl 0 rfl) ?_
  refine va_last hx hb hK hP hD hS 1 2 rfl rfl (vp_in_nI (n := 0) (by decide) (by decide)) dX4_sendNext_61 (fun H locs hP hD hS => ?_)
  have hP : va_P (dC, dI) vwCl [(xa38, .inr (4, [.ref xa39, .ref xa40, .int 0])), (xa39, .inl (kJ, 23, .inr (.inl (vp_updL (vp_updL f1 1 ((f1 1) + ((f1 0) - (((f1 0) * 0) / 1)))) 0 (((f1 0) * 0) / 1)))))] H := hP
  have hD : va_D A [(xa38, .inr (4, [.ref xa39, .ref xa40, .int 0])), (xa39, .inl (kJ, 23, .inr (.inl (vp_updL (vp_updL f1 1 ((f1 1) + ((f1 0) - (((f1 0) * 0) / 1)))) 0 (((f1 0) * 0) / 1)))))] := hD
  refine lv_iinc (v := (-1)) (lv' := [(2, .int (-1)), (3, .long (((f1 0) * 0) / 1)), (0, .ref xa38), (1, .int 1)]) hx hb dX4_sendNext_62 hl (k := 1) rfl (by decide) (by decide) rfl (fun ls hl => ?_)
  refine lv_goto (tgt := 19) hx hb dX4_sendNext_65 (by decide) ?_
  refine lv_iload_n hx hb dX4_sendNext_19 rfl (lv_at hl 0 rfl) ?_
  refine lv_if_lt (tgt := 68) hx hb dX4_sendNext_20 (by decide) (fun _ => ?_) (fun c9 => absurd (by decide) c9)
  have hP9 := hP.sub (ws' := [(xa38, .inr (4, [.ref xa39, .ref xa40, .int 0])), (xa39, .inl (kJ, 23, .inr (.inl (vp_updL (vp_updL f1 1 ((f1 1) + ((f1 0) - (((f1 0) * 0) / 1)))) 0 (((f1 0) * 0) / 1)))))]) [0, 1] rfl
  have hD9 := hD.sub (ws' := [(xa38, .inr (4, [.ref xa39, .ref xa40, .int 0])), (xa39, .inl (kJ, 23, .inr (.inl (vp_updL (vp_updL f1 1 ((f1 1) + ((f1 0) - (((f1 0) * 0) / 1)))) 0 (((f1 0) * 0) / 1)))))]) [0, 1] (by decide) rfl
  exact W.vret hx hb hr (fun t ht hW => ⟨⟨(), rfl, trivial, vp_updL (vp_updL f1 1 ((f1 1) + ((f1 0) - (((f1 0) * 0) / 1)))) 0 (((f1 0) * 0) / 1), rfl, rfl, by rw [ht]; exact hP9, hD9⟩, hS.F ht⟩) hS.2.2 dX4_sendNext_68
def rm_k4_begin_2 : Room := { frames := 0, cells := 0, slots := 0, locals := 0 }
set_option maxHeartbeats 4000000 in
set_option maxRecDepth 100000 in
theorem k4_begin_2 (l : Launch) (dC : Nat → ClassId) (dI : Nat → Nat → Nat) (kB kI kJ kZ kC kS : ClassId) (sz : Nat) (xa38 : Nat) (xa39 : Nat) (xa40 : Nat) (f1 : Nat → Int64) : Met l yX4_begin wsX4_begin rm_k4_begin_2 (va_Pc [.ref xa38, .int 2] (fun U => U.heap.size = sz ∧ va_P (dC, dI) vwCl [(xa38, .inr (4, [.ref xa39, .ref xa40, .int 0])), (xa39, .inl (kJ, 23, .inr (.inl f1)))] U.heap ∧ kE dC dI kB kI kJ kZ kC kS U ∧ va_D (fun _ => True) [(xa38, .inr (4, [.ref xa39, .ref xa40, .int 0])), (xa39, .inl (kJ, 23, .inr (.inl f1)))])) (va_Qv (fun (_ : Unit) => True) (fun _ t => ∃ (g1 : Nat → Int64), g1 0 = kv2 0 0 ∧ g1 1 = kv2 0 1 ∧ g1 2 = kv2 0 2 ∧ va_P (dC, dI) vwCl [(xa38, .inr (4, [.ref xa39, .ref xa40, .int 0])), (xa39, .inl (kJ, 23, .inr (.inl g1)))] t.heap ∧ va_D (va_A [(xa38, .inr (4, [.ref xa39, .ref xa40, .int 0])), (xa39, .inl (kJ, 23, .inr (.inl f1)))] sz) [(xa38, .inr (4, [.ref xa39, .ref xa40, .int 0])), (xa39, .inl (kJ, 23, .inr (.inl g1)))]) (va_A [(xa38, .inr (4, [.ref xa39, .ref xa40, .int 0])), (xa39, .inl (kJ, 23, .inr (.inl f1)))] sz)) 0 0 (va_A [(xa38, .inr (4, [.ref xa39, .ref xa40, .int 0])), (xa39, .inl (kJ, 23, .inr (.inl f1)))] sz) := by
  refine Met.ofW (cc := cX4_begin) (maxL := 3) (ret := none) (by decide) rfl ?_
  intro p e s m args0 below meth c s₁ B hml hv
  obtain ⟨hargs, hsz, hP, hE, hD0⟩ := hv
  have hx := B.exec
  have hb := B.bytes
  have hr := B.returns
  have hts := atoms_spec (ws := wsX4_begin) B.pre
  have hown : s.vm.findClass RX4 = some m.cls := findClass_of_methodNamed B.named
  have hlocks := B.notSynchronized
  have hK := hE.1
  have hin4 : ∀ w ∈ wsX40, w ∈ wsX4_begin := fun _ h9 => List.mem_cons_of_mem _ (List.mem_append_right _ h9)
  subst hsz
  have hD := hD0.self (sz := s.heap.size)
  generalize hAe : va_A [(xa38, .inr (4, [.ref xa39, .ref xa40, .int 0])), (xa39, .inl (kJ, 23, .inr (.inl f1)))] s.heap.size = A at hD ⊢
  have hA : ∀ q : Nat, s.heap.size ≤ q → A q := fun q h => by rw [← hAe]; exact Or.inr h
  have hS : va_S A s.heap s.heap [] := va_S.rf
  have hP : va_P (dC, dI) vwCl [(xa38, .inr (4, [.ref xa39, .ref xa40, .int 0])), (xa39, .inl (kJ, 23, .inr (.inl f1)))] s.heap := hP
  have hl := lv_entry ([.ref xa38, .int 2]) (n := 3) (Nat.le_of_ble_eq_true rfl)
  have hla : entryFrame m args0 3 = entryFrame m ([.ref xa38, .int 2] : List Value).toArray 3 := by rw [hargs]
  rw [hla, lg_entry_eq]
  generalize (lg_sl ([.ref xa38, .int 2]) ++ List.replicate (3 - (lg_sl ([.ref xa38, .int 2])).length) Slot.unset).toArray = ls at hl ⊢
  have hl : lv_has ls 3 [(0, .ref xa38), (1, .int 2)] := hl
  refine lv_aload_n hx hb dX4_begin_0 rfl (lv_at hl 0 rfl) ?_
  refine va_get (D := (dC, dI)) (ci := 4) (v := .ref xa39) (C := RX4) (T := TX4) (N := 3) hx hb hts hin4 hown hK hP 0 rfl rfl 0 (by decide) (hts (.fieldLink RX4 9 "PathProber$Odds" "met" "[J") (List.mem_of_getElem? (i := 1) (by decide +kernel))) (fun _ h9 => h9) rfl dX4_begin_1 ?_
  refine lv_iconst (v := 0) hx hb dX4_begin_4 (by decide) ?_
  refine lv_ldc2 hx hb hown (hts (.constantLong RX4 23 (1000000000000)) (List.mem_of_getElem? (i := 2) (by decide +kernel))) dX4_begin_5 ?_
  refine va_last hx hb hK hP hD hS 1 2 rfl rfl (vp_in_nI (n := 0) (by decide) (by decide)) dX4_begin_8 (fun H locs hP hD hS => ?_)
  have hP : va_P (dC, dI) vwCl [(xa38, .inr (4, [.ref xa39, .ref xa40, .int 0])), (xa39, .inl (kJ, 23, .inr (.inl (vp_updL f1 0 1000000000000))))] H := hP
  have hD : va_D A [(xa38, .inr (4, [.ref xa39, .ref xa40, .int 0])), (xa39, .inl (kJ, 23, .inr (.inl (vp_updL f1 0 1000000000000))))] := hD
  refine lv_iconst (v := 1) hx hb dX4_begin_9 (by decide) ?_
  refine lv_istore_n (lv' := [(2, .int 1), (0, .ref xa38), (1, .int 2)]) hx hb dX4_begin_10 rfl hl (by decide) rfl (fun ls hl => ?_)
  refine lv_iload_n hx hb dX4_begin_11 rfl (lv_at hl 0 rfl) ?_
  refine lv_iload_n hx hb dX4_begin_12 rfl (lv_at hl 2 rfl) ?_
  refine lv_icmp_gt (tgt := 29) hx hb dX4_begin_13 (by decide) (fun c9 => absurd c9 (by decide)) (fun _ => ?_)
  refine lv_aload_n hx hb dX4_begin_16 rfl (lv_at hl 1 rfl) ?_
  refine va_get (D := (dC, dI)) (ci := 4) (v := .ref xa39) (C := RX4) (T := TX4) (N := 3) hx hb hts hin4 hown hK hP 0 rfl rfl 0 (by decide) (hts (.fieldLink RX4 9 "PathProber$Odds" "met" "[J") (List.mem_of_getElem? (i := 1) (by decide +kernel))) (fun _ h9 => h9) rfl dX4_begin_17 ?_
  refine lv_iload_n hx hb dX4_begin_20 rfl (lv_at hl 0 rfl) ?_
  refine lv_lconst (v := 0) hx hb dX4_begin_21 (by decide) ?_
  refine va_last hx hb hK hP hD hS 1 2 rfl rfl (vp_in_nI (n := 1) (by decide) (by decide)) dX4_begin_22 (fun H locs hP hD hS => ?_)
  have hP : va_P (dC, dI) vwCl [(xa38, .inr (4, [.ref xa39, .ref xa40, .int 0])), (xa39, .inl (kJ, 23, .inr (.inl (vp_updL (vp_updL f1 0 1000000000000) 1 0))))] H := hP
  have hD : va_D A [(xa38, .inr (4, [.ref xa39, .ref xa40, .int 0])), (xa39, .inl (kJ, 23, .inr (.inl (vp_updL (vp_updL f1 0 1000000000000) 1 0))))] := hD
  refine lv_iinc (v := 2) (lv' := [(2, .int 2), (0, .ref xa38), (1, .int 2)]) hx hb dX4_begin_23 hl (k := 0) rfl (by decide) (by decide) rfl (fun ls hl => ?_)
  refine lv_goto (tgt := 11) hx hb dX4_begin_26 (by decide) ?_
  refine lv_iload_n hx hb dX4_begin_11 rfl (lv_at hl 0 rfl) ?_
  refine lv_iload_n hx hb dX4_begin_12 rfl (lv_at hl 2 rfl) ?_
  refine lv_icmp_gt (tgt := 29) hx hb dX4_begin_13 (by decide) (fun c9 => absurd c9 (by decide)) (fun _ => ?_)
  refine lv_aload_n hx hb dX4_begin_16 rfl (lv_at hl 1 rfl) ?_
  refine va_get (D := (dC, dI)) (ci := 4) (v := .ref xa39) (C := RX4) (T := TX4) (N := 3) hx hb hts hin4 hown hK hP 0 rfl rfl 0 (by decide) (hts (.fieldLink RX4 9 "PathProber$Odds" "met" "[J") (List.mem_of_getElem? (i := 1) (by decide +kernel))) (fun _ h9 => h9) rfl dX4_begin_17 ?_
  refine lv_iload_n hx hb dX4_begin_20 rfl (lv_at hl 0 rfl) ?_
  refine lv_lconst (v := 0) hx hb dX4_begin_21 (by decide) ?_
  refine va_last hx hb hK hP hD hS 1 2 rfl rfl (vp_in_nI (n := 2) (by decide) (by decide)) dX4_begin_22 (fun H locs hP hD hS => ?_)
  have hP : va_P (dC, dI) vwCl [(xa38, .inr (4, [.ref xa39, .ref xa40, .int 0])), (xa39, .inl (kJ, 23, .inr (.inl (vp_updL (vp_updL (vp_updL f1 0 1000000000000) 1 0) 2 0))))] H := hP
  have hD : va_D A [(xa38, .inr (4, [.ref xa39, .ref xa40, .int 0])), (xa39, .inl (kJ, 23, .inr (.inl (vp_updL (vp_updL (vp_updL f1 0 1000000000000) 1 0) 2 0))))] := hD
  refine lv_iinc (v := 3) (lv' := [(2, .int 3), (0, .ref xa38), (1, .int 2)]) hx hb dX4_begin_23 hl (k := 0) rfl (by decide) (by decide) rfl (fun ls hl => ?_)
  refine lv_goto (tgt := 11) hx hb dX4_begin_26 (by decide) ?_
  refine lv_iload_n hx hb dX4_begin_11 rfl (lv_at hl 0 rfl) ?_
  refine lv_iload_n hx hb dX4_begin_12 rfl (lv_at hl 2 rfl) ?_
  refine lv_icmp_gt (tgt := 29) hx hb dX4_begin_13 (by decide) (fun _ => ?_) (fun c9 => absurd (by decide) c9)
  have hP9 := hP.sub (ws' := [(xa38, .inr (4, [.ref xa39, .ref xa40, .int 0])), (xa39, .inl (kJ, 23, .inr (.inl (vp_updL (vp_updL (vp_updL f1 0 1000000000000) 1 0) 2 0))))]) [0, 1] rfl
  have hD9 := hD.sub (ws' := [(xa38, .inr (4, [.ref xa39, .ref xa40, .int 0])), (xa39, .inl (kJ, 23, .inr (.inl (vp_updL (vp_updL (vp_updL f1 0 1000000000000) 1 0) 2 0))))]) [0, 1] (by decide) rfl
  exact W.vret hx hb hr (fun t ht hW => ⟨⟨(), rfl, trivial, vp_updL (vp_updL (vp_updL f1 0 1000000000000) 1 0) 2 0, rfl, rfl, rfl, by rw [ht]; exact hP9, hD9⟩, hS.F ht⟩) hS.2.2 dX4_begin_29
def rm_k4_sendNext_2 : Room := { frames := 0, cells := 0, slots := 0, locals := 0 }
set_option maxHeartbeats 4000000 in
set_option maxRecDepth 100000 in
theorem k4_sendNext_2 (l : Launch) (dC : Nat → ClassId) (dI : Nat → Nat → Nat) (kB kI kJ kZ kC kS : ClassId) (sz : Nat) (xa38 : Nat) (xa39 : Nat) (xa40 : Nat) (f1 : Nat → Int64) : Met l yX4_sendNext wsX4_sendNext rm_k4_sendNext_2 (va_Pc [.ref xa38, .int 2] (fun U => U.heap.size = sz ∧ va_P (dC, dI) vwCl [(xa38, .inr (4, [.ref xa39, .ref xa40, .int 0])), (xa39, .inl (kJ, 23, .inr (.inl f1)))] U.heap ∧ kE dC dI kB kI kJ kZ kC kS U ∧ va_D (fun _ => True) [(xa38, .inr (4, [.ref xa39, .ref xa40, .int 0])), (xa39, .inl (kJ, 23, .inr (.inl f1)))])) (va_Qv (fun (_ : Unit) => True) (fun _ t => ∃ (g1 : Nat → Int64), g1 0 = f1 0 * 0 / 2 ∧ g1 1 = f1 1 * 1 / 2 + (f1 0 - f1 0 * 0 / 2) ∧ g1 2 = f1 2 + (f1 1 - f1 1 * 1 / 2) ∧ va_P (dC, dI) vwCl [(xa38, .inr (4, [.ref xa39, .ref xa40, .int 0])), (xa39, .inl (kJ, 23, .inr (.inl g1)))] t.heap ∧ va_D (va_A [(xa38, .inr (4, [.ref xa39, .ref xa40, .int 0])), (xa39, .inl (kJ, 23, .inr (.inl f1)))] sz) [(xa38, .inr (4, [.ref xa39, .ref xa40, .int 0])), (xa39, .inl (kJ, 23, .inr (.inl g1)))]) (va_A [(xa38, .inr (4, [.ref xa39, .ref xa40, .int 0])), (xa39, .inl (kJ, 23, .inr (.inl f1)))] sz)) 0 0 (va_A [(xa38, .inr (4, [.ref xa39, .ref xa40, .int 0])), (xa39, .inl (kJ, 23, .inr (.inl f1)))] sz) := by
  refine Met.ofW (cc := cX4_sendNext) (maxL := 5) (ret := none) (by decide) rfl ?_
  intro p e s m args0 below meth c s₁ B hml hv
  obtain ⟨hargs, hsz, hP, hE, hD0⟩ := hv
  have hx := B.exec
  have hb := B.bytes
  have hr := B.returns
  have hts := atoms_spec (ws := wsX4_sendNext) B.pre
  have hown : s.vm.findClass RX4 = some m.cls := findClass_of_methodNamed B.named
  have hlocks := B.notSynchronized
  have hK := hE.1
  have hin4 : ∀ w ∈ wsX40, w ∈ wsX4_sendNext := fun _ h9 => List.mem_cons_of_mem _ (List.mem_append_right _ h9)
  subst hsz
  have hD := hD0.self (sz := s.heap.size)
  generalize hAe : va_A [(xa38, .inr (4, [.ref xa39, .ref xa40, .int 0])), (xa39, .inl (kJ, 23, .inr (.inl f1)))] s.heap.size = A at hD ⊢
  have hA : ∀ q : Nat, s.heap.size ≤ q → A q := fun q h => by rw [← hAe]; exact Or.inr h
  have hS : va_S A s.heap s.heap [] := va_S.rf
  have hP : va_P (dC, dI) vwCl [(xa38, .inr (4, [.ref xa39, .ref xa40, .int 0])), (xa39, .inl (kJ, 23, .inr (.inl f1)))] s.heap := hP
  have hl := lv_entry ([.ref xa38, .int 2]) (n := 5) (Nat.le_of_ble_eq_true rfl)
  have hla : entryFrame m args0 5 = entryFrame m ([.ref xa38, .int 2] : List Value).toArray 5 := by rw [hargs]
  rw [hla, lg_entry_eq]
  generalize (lg_sl ([.ref xa38, .int 2]) ++ List.replicate (5 - (lg_sl ([.ref xa38, .int 2])).length) Slot.unset).toArray = ls at hl ⊢
  have hl : lv_has ls 5 [(0, .ref xa38), (1, .int 2)] := hl
  refine lv_iload_n hx hb dX4_sendNext_0 rfl (lv_at hl 1 rfl) ?_
  refine lv_iconst (v := 1) hx hb dX4_sendNext_1 (by decide) ?_
  refine lv_icmp_lt (tgt := 14) hx hb dX4_sendNext_2 (by decide) (fun c9 => absurd c9 (by decide)) (fun _ => ?_)
  refine lv_iload_n hx hb dX4_sendNext_5 rfl (lv_at hl 1 rfl) ?_
  refine lv_aload_n hx hb dX4_sendNext_6 rfl (lv_at hl 0 rfl) ?_
  refine va_get (D := (dC, dI)) (ci := 4) (v := .ref xa39) (C := RX4) (T := TX4) (N := 3) hx hb hts hin4 hown hK hP 0 rfl rfl 0 (by decide) (hts (.fieldLink RX4 9 "PathProber$Odds" "met" "[J") (List.mem_of_getElem? (i := 1) (by decide +kernel))) (fun _ h9 => h9) rfl dX4_sendNext_7 ?_
  refine va_alen (v := 23) hx hb hK hP 1 2 rfl rfl rfl dX4_sendNext_10 ?_
  refine lv_icmp_lt (tgt := 15) hx hb dX4_sendNext_11 (by decide) (fun _ => ?_) (fun c9 => absurd (by decide) c9)
  refine lv_iload_n hx hb dX4_sendNext_15 rfl (lv_at hl 1 rfl) ?_
  refine lv_iconst (v := 1) hx hb dX4_sendNext_16 (by decide) ?_
  refine lv_isub hx hb dX4_sendNext_17 ?_
  refine lv_topi (fun z1 e2 => ?_)
  obtain rfl : z1 = (1 : Int32) := e2.trans (by decide)
  refine lv_istore_n (lv' := [(2, .int 1), (0, .ref xa38), (1, .int 2)]) hx hb dX4_sendNext_18 rfl hl (by decide) rfl (fun ls hl => ?_)
  refine lv_iload_n hx hb dX4_sendNext_19 rfl (lv_at hl 0 rfl) ?_
  refine lv_if_lt (tgt := 68) hx hb dX4_sendNext_20 (by decide) (fun c9 => absurd c9 (by decide)) (fun _ => ?_)
  refine lv_aload_n hx hb dX4_sendNext_23 rfl (lv_at hl 1 rfl) ?_
  refine va_get (D := (dC, dI)) (ci := 4) (v := .ref xa39) (C := RX4) (T := TX4) (N := 3) hx hb hts hin4 hown hK hP 0 rfl rfl 0 (by decide) (hts (.fieldLink RX4 9 "PathProber$Odds" "met" "[J") (List.mem_of_getElem? (i := 1) (by decide +kernel))) (fun _ h9 => h9) rfl dX4_sendNext_24 ?_
  refine lv_iload_n hx hb dX4_sendNext_27 rfl (lv_at hl 0 rfl) ?_
  refine va_lald hx hb hK hP 1 2 rfl rfl (vp_in_nI (n := 1) (by decide) (by decide)) dX4_sendNext_28 ?_
  refine lv_topl (fun z3 e4 => ?_)
  obtain rfl : z3 = (f1 1 : Int64) := e4
  refine lv_iload_n hx hb dX4_sendNext_29 rfl (lv_at hl 0 rfl) ?_
  refine lv_i2l (v := 1) hx hb dX4_sendNext_30 (by decide) ?_
  refine lv_lmul hx hb dX4_sendNext_31 ?_
  refine lv_iload_n hx hb dX4_sendNext_32 rfl (lv_at hl 2 rfl) ?_
  refine lv_i2l (v := 2) hx hb dX4_sendNext_33 (by decide) ?_
  refine lv_ldiv hx hb dX4_sendNext_34 (by decide) ?_
  refine lv_lstore_n (lv' := [(3, .long (((f1 1) * 1) / 2)), (2, .int 1), (0, .ref xa38), (1, .int 2)]) hx hb dX4_sendNext_35 rfl hl (by decide) rfl (fun ls hl => ?_)
  refine lv_aload_n hx hb dX4_sendNext_36 rfl (lv_at hl 2 rfl) ?_
  refine va_get (D := (dC, dI)) (ci := 4) (v := .ref xa39) (C := RX4) (T := TX4) (N := 3) hx hb hts hin4 hown hK hP 0 rfl rfl 0 (by decide) (hts (.fieldLink RX4 9 "PathProber$Odds" "met" "[J") (List.mem_of_getElem? (i := 1) (by decide +kernel))) (fun _ h9 => h9) rfl dX4_sendNext_37 ?_
  refine lv_iload_n hx hb dX4_sendNext_40 rfl (lv_at hl 1 rfl) ?_
  refine lv_iconst (v := 1) hx hb dX4_sendNext_41 (by decide) ?_
  refine lv_iadd hx hb dX4_sendNext_42 ?_
  refine lv_topi (fun z5 e6 => ?_)
  obtain rfl : z5 = (2 : Int32) := e6.trans (by decide)
  refine lv_dup2_11 hx hb dX4_sendNext_43 rfl rfl ?_
  refine va_lald hx hb hK hP 1 2 rfl rfl (vp_in_nI (n := 2) (by decide) (by decide)) dX4_sendNext_44 ?_
  refine lv_topl (fun z7 e8 => ?_)
  obtain rfl : z7 = (f1 2 : Int64) := e8
  refine lv_aload_n hx hb dX4_sendNext_45 rfl (lv_at hl 2 rfl) ?_
  refine va_get (D := (dC, dI)) (ci := 4) (v := .ref xa39) (C := RX4) (T := TX4) (N := 3) hx hb hts hin4 hown hK hP 0 rfl rfl 0 (by decide) (hts (.fieldLink RX4 9 "PathProber$Odds" "met" "[J") (List.mem_of_getElem? (i := 1) (by decide +kernel))) (fun _ h9 => h9) rfl dX4_sendNext_46 ?_
  refine lv_iload_n hx hb dX4_sendNext_49 rfl (lv_at hl 1 rfl) ?_
  refine va_lald hx hb hK hP 1 2 rfl rfl (vp_in_nI (n := 1) (by decide) (by decide)) dX4_sendNext_50 ?_
  refine lv_topl (fun z9 e10 => ?_)
  obtain rfl : z9 = (f1 1 : Int64) := e10
  refine lv_lload_n hx hb dX4_sendNext_51 rfl (lv_at hl 0 rfl) ?_
  refine lv_lsub hx hb dX4_sendNext_52 ?_
  refine lv_ladd hx hb dX4_sendNext_53 ?_
  refine va_last hx hb hK hP hD hS 1 2 rfl rfl (vp_in_nI (n := 2) (by decide) (by decide)) dX4_sendNext_54 (fun H locs hP hD hS => ?_)
  have hP : va_P (dC, dI) vwCl [(xa38, .inr (4, [.ref xa39, .ref xa40, .int 0])), (xa39, .inl (kJ, 23, .inr (.inl (vp_updL f1 2 ((f1 2) + ((f1 1) - (((f1 1) * 1) / 2)))))))] H := hP
  have hD : va_D A [(xa38, .inr (4, [.ref xa39, .ref xa40, .int 0])), (xa39, .inl (kJ, 23, .inr (.inl (vp_updL f1 2 ((f1 2) + ((f1 1) - (((f1 1) * 1) / 2)))))))] := hD
  refine lv_aload_n hx hb dX4_sendNext_55 rfl (lv_at hl 2 rfl) ?_
  refine va_get (D := (dC, dI)) (ci := 4) (v := .ref xa39) (C := RX4) (T := TX4) (N := 3) hx hb hts hin4 hown hK hP 0 rfl rfl 0 (by decide) (hts (.fieldLink RX4 9 "PathProber$Odds" "met" "[J") (List.mem_of_getElem? (i := 1) (by decide +kernel))) (fun _ h9 => h9) rfl dX4_sendNext_56 ?_
  refine lv_iload_n hx hb dX4_sendNext_59 rfl (lv_at hl 1 rfl) ?_
  refine lv_lload_n hx hb dX4_sendNext_60 rfl (lv_at hl 0 rfl) ?_
  refine va_last hx hb hK hP hD hS 1 2 rfl rfl (vp_in_nI (n := 1) (by decide) (by decide)) dX4_sendNext_61 (fun H locs hP hD hS => ?_)
  have hP : va_P (dC, dI) vwCl [(xa38, .inr (4, [.ref xa39, .ref xa40, .int 0])), (xa39, .inl (kJ, 23, .inr (.inl (vp_updL (vp_updL f1 2 ((f1 2) + ((f1 1) - (((f1 1) * 1) / 2)))) 1 (((f1 1) * 1) / 2)))))] H := hP
  have hD : va_D A [(xa38, .inr (4, [.ref xa39, .ref xa40, .int 0])), (xa39, .inl (kJ, 23, .inr (.inl (vp_updL (vp_updL f1 2 ((f1 2) + ((f1 1) - (((f1 1) * 1) / 2)))) 1 (((f1 1) * 1) / 2)))))] := hD
  refine lv_iinc (v := 0) (lv' := [(2, .int 0), (3, .long (((f1 1) * 1) / 2)), (0, .ref xa38), (1, .int 2)]) hx hb dX4_sendNext_62 hl (k := 1) rfl (by decide) (by decide) rfl (fun ls hl => ?_)
  refine lv_goto (tgt := 19) hx hb dX4_sendNext_65 (by decide) ?_
  refine lv_iload_n hx hb dX4_sendNext_19 rfl (lv_at hl 0 rfl) ?_
  refine lv_if_lt (tgt := 68) hx hb dX4_sendNext_20 (by decide) (fun c9 => absurd c9 (by decide)) (fun _ => ?_)
  refine lv_aload_n hx hb dX4_sendNext_23 rfl (lv_at hl 2 rfl) ?_
  refine va_get (D := (dC, dI)) (ci := 4) (v := .ref xa39) (C := RX4) (T := TX4) (N := 3) hx hb hts hin4 hown hK hP 0 rfl rfl 0 (by decide) (hts (.fieldLink RX4 9 "PathProber$Odds" "met" "[J") (List.mem_of_getElem? (i := 1) (by decide +kernel))) (fun _ h9 => h9) rfl dX4_sendNext_24 ?_
  refine lv_iload_n hx hb dX4_sendNext_27 rfl (lv_at hl 0 rfl) ?_
  refine va_lald hx hb hK hP 1 2 rfl rfl (vp_in_nI (n := 0) (by decide) (by decide)) dX4_sendNext_28 ?_
  refine lv_topl (fun z11 e12 => ?_)
  obtain rfl : z11 = (f1 0 : Int64) := e12
  refine lv_iload_n hx hb dX4_sendNext_29 rfl (lv_at hl 0 rfl) ?_
  refine lv_i2l (v := 0) hx hb dX4_sendNext_30 (by decide) ?_
  refine lv_lmul hx hb dX4_sendNext_31 ?_
  refine lv_iload_n hx hb dX4_sendNext_32 rfl (lv_at hl 3 rfl) ?_
  refine lv_i2l (v := 2) hx hb dX4_sendNext_33 (by decide) ?_
  refine lv_ldiv hx hb dX4_sendNext_34 (by decide) ?_
  refine lv_lstore_n (lv' := [(3, .long (((f1 0) * 0) / 2)), (2, .int 0), (0, .ref xa38), (1, .int 2)]) hx hb dX4_sendNext_35 rfl hl (by decide) rfl (fun ls hl => ?_)
  refine lv_aload_n hx hb dX4_sendNext_36 rfl (lv_at hl 2 rfl) ?_
  refine va_get (D := (dC, dI)) (ci := 4) (v := .ref xa39) (C := RX4) (T := TX4) (N := 3) hx hb hts hin4 hown hK hP 0 rfl rfl 0 (by decide) (hts (.fieldLink RX4 9 "PathProber$Odds" "met" "[J") (List.mem_of_getElem? (i := 1) (by decide +kernel))) (fun _ h9 => h9) rfl dX4_sendNext_37 ?_
  refine lv_iload_n hx hb dX4_sendNext_40 rfl (lv_at hl 1 rfl) ?_
  refine lv_iconst (v := 1) hx hb dX4_sendNext_41 (by decide) ?_
  refine lv_iadd hx hb dX4_sendNext_42 ?_
  refine lv_topi (fun z13 e14 => ?_)
  obtain rfl : z13 = (1 : Int32) := e14.trans (by decide)
  refine lv_dup2_11 hx hb dX4_sendNext_43 rfl rfl ?_
  refine va_lald hx hb hK hP 1 2 rfl rfl (vp_in_nI (n := 1) (by decide) (by decide)) dX4_sendNext_44 ?_
  refine lv_topl (fun z15 e16 => ?_)
  obtain rfl : z15 = (((f1 1) * 1) / 2 : Int64) := e16
  refine lv_aload_n hx hb dX4_sendNext_45 rfl (lv_at hl 2 rfl) ?_
  refine va_get (D := (dC, dI)) (ci := 4) (v := .ref xa39) (C := RX4) (T := TX4) (N := 3) hx hb hts hin4 hown hK hP 0 rfl rfl 0 (by decide) (hts (.fieldLink RX4 9 "PathProber$Odds" "met" "[J") (List.mem_of_getElem? (i := 1) (by decide +kernel))) (fun _ h9 => h9) rfl dX4_sendNext_46 ?_
  refine lv_iload_n hx hb dX4_sendNext_49 rfl (lv_at hl 1 rfl) ?_
  refine va_lald hx hb hK hP 1 2 rfl rfl (vp_in_nI (n := 0) (by decide) (by decide)) dX4_sendNext_50 ?_
  refine lv_topl (fun z17 e18 => ?_)
  obtain rfl : z17 = (f1 0 : Int64) := e18
  refine lv_lload_n hx hb dX4_sendNext_51 rfl (lv_at hl 0 rfl) ?_
  refine lv_lsub hx hb dX4_sendNext_52 ?_
  refine lv_ladd hx hb dX4_sendNext_53 ?_
  refine va_last hx hb hK hP hD hS 1 2 rfl rfl (vp_in_nI (n := 1) (by decide) (by decide)) dX4_sendNext_54 (fun H locs hP hD hS => ?_)
  have hP : va_P (dC, dI) vwCl [(xa38, .inr (4, [.ref xa39, .ref xa40, .int 0])), (xa39, .inl (kJ, 23, .inr (.inl (vp_updL (vp_updL (vp_updL f1 2 ((f1 2) + ((f1 1) - (((f1 1) * 1) / 2)))) 1 (((f1 1) * 1) / 2)) 1 ((((f1 1) * 1) / 2) + ((f1 0) - (((f1 0) * 0) / 2)))))))] H := hP
  have hD : va_D A [(xa38, .inr (4, [.ref xa39, .ref xa40, .int 0])), (xa39, .inl (kJ, 23, .inr (.inl (vp_updL (vp_updL (vp_updL f1 2 ((f1 2) + ((f1 1) - (((f1 1) * 1) / 2)))) 1 (((f1 1) * 1) / 2)) 1 ((((f1 1) * 1) / 2) + ((f1 0) - (((f1 0) * 0) / 2)))))))] := hD
  refine lv_aload_n hx hb dX4_sendNext_55 rfl (lv_at hl 2 rfl) ?_
  refine va_get (D := (dC, dI)) (ci := 4) (v := .ref xa39) (C := RX4) (T := TX4) (N := 3) hx hb hts hin4 hown hK hP 0 rfl rfl 0 (by decide) (hts (.fieldLink RX4 9 "PathProber$Odds" "met" "[J") (List.mem_of_getElem? (i := 1) (by decide +kernel))) (fun _ h9 => h9) rfl dX4_sendNext_56 ?_
  refine lv_iload_n hx hb dX4_sendNext_59 rfl (lv_at hl 1 rfl) ?_
  refine lv_lload_n hx hb dX4_sendNext_60 rfl (lv_at hl 0 rfl) ?_
  refine va_last hx hb hK hP hD hS 1 2 rfl rfl (vp_in_nI (n := 0) (by decide) (by decide)) dX4_sendNext_61 (fun H locs hP hD hS => ?_)
  have hP : va_P (dC, dI) vwCl [(xa38, .inr (4, [.ref xa39, .ref xa40, .int 0])), (xa39, .inl (kJ, 23, .inr (.inl (vp_updL (vp_updL (vp_updL (vp_updL f1 2 ((f1 2) + ((f1 1) - (((f1 1) * 1) / 2)))) 1 (((f1 1) * 1) / 2)) 1 ((((f1 1) * 1) / 2) + ((f1 0) - (((f1 0) * 0) / 2)))) 0 (((f1 0) * 0) / 2)))))] H := hP
  have hD : va_D A [(xa38, .inr (4, [.ref xa39, .ref xa40, .int 0])), (xa39, .inl (kJ, 23, .inr (.inl (vp_updL (vp_updL (vp_updL (vp_updL f1 2 ((f1 2) + ((f1 1) - (((f1 1) * 1) / 2)))) 1 (((f1 1) * 1) / 2)) 1 ((((f1 1) * 1) / 2) + ((f1 0) - (((f1 0) * 0) / 2)))) 0 (((f1 0) * 0) / 2)))))] := hD
  refine lv_iinc (v := (-1)) (lv' := [(2, .int (-1)), (3, .long (((f1 0) * 0) / 2)), (0, .ref xa38), (1, .int 2)]) hx hb dX4_sendNext_62 hl (k := 1) rfl (by decide) (by decide) rfl (fun ls hl => ?_)
  refine lv_goto (tgt := 19) hx hb dX4_sendNext_65 (by decide) ?_
  refine lv_iload_n hx hb dX4_sendNext_19 rfl (lv_at hl 0 rfl) ?_
  refine lv_if_lt (tgt := 68) hx hb dX4_sendNext_20 (by decide) (fun _ => ?_) (fun c9 => absurd (by decide) c9)
  have hP9 := hP.sub (ws' := [(xa38, .inr (4, [.ref xa39, .ref xa40, .int 0])), (xa39, .inl (kJ, 23, .inr (.inl (vp_updL (vp_updL (vp_updL (vp_updL f1 2 ((f1 2) + ((f1 1) - (((f1 1) * 1) / 2)))) 1 (((f1 1) * 1) / 2)) 1 ((((f1 1) * 1) / 2) + ((f1 0) - (((f1 0) * 0) / 2)))) 0 (((f1 0) * 0) / 2)))))]) [0, 1] rfl
  have hD9 := hD.sub (ws' := [(xa38, .inr (4, [.ref xa39, .ref xa40, .int 0])), (xa39, .inl (kJ, 23, .inr (.inl (vp_updL (vp_updL (vp_updL (vp_updL f1 2 ((f1 2) + ((f1 1) - (((f1 1) * 1) / 2)))) 1 (((f1 1) * 1) / 2)) 1 ((((f1 1) * 1) / 2) + ((f1 0) - (((f1 0) * 0) / 2)))) 0 (((f1 0) * 0) / 2)))))]) [0, 1] (by decide) rfl
  exact W.vret hx hb hr (fun t ht hW => ⟨⟨(), rfl, trivial, vp_updL (vp_updL (vp_updL (vp_updL f1 2 ((f1 2) + ((f1 1) - (((f1 1) * 1) / 2)))) 1 (((f1 1) * 1) / 2)) 1 ((((f1 1) * 1) / 2) + ((f1 0) - (((f1 0) * 0) / 2)))) 0 (((f1 0) * 0) / 2), rfl, rfl, rfl, by rw [ht]; exact hP9, hD9⟩, hS.F ht⟩) hS.2.2 dX4_sendNext_68
def rm_k4_begin_3 : Room := { frames := 0, cells := 0, slots := 0, locals := 0 }
set_option maxHeartbeats 4000000 in
set_option maxRecDepth 100000 in
theorem k4_begin_3 (l : Launch) (dC : Nat → ClassId) (dI : Nat → Nat → Nat) (kB kI kJ kZ kC kS : ClassId) (sz : Nat) (xa38 : Nat) (xa39 : Nat) (xa40 : Nat) (f1 : Nat → Int64) : Met l yX4_begin wsX4_begin rm_k4_begin_3 (va_Pc [.ref xa38, .int 3] (fun U => U.heap.size = sz ∧ va_P (dC, dI) vwCl [(xa38, .inr (4, [.ref xa39, .ref xa40, .int 0])), (xa39, .inl (kJ, 23, .inr (.inl f1)))] U.heap ∧ kE dC dI kB kI kJ kZ kC kS U ∧ va_D (fun _ => True) [(xa38, .inr (4, [.ref xa39, .ref xa40, .int 0])), (xa39, .inl (kJ, 23, .inr (.inl f1)))])) (va_Qv (fun (_ : Unit) => True) (fun _ t => ∃ (g1 : Nat → Int64), g1 0 = kv3 0 0 ∧ g1 1 = kv3 0 1 ∧ g1 2 = kv3 0 2 ∧ g1 3 = kv3 0 3 ∧ va_P (dC, dI) vwCl [(xa38, .inr (4, [.ref xa39, .ref xa40, .int 0])), (xa39, .inl (kJ, 23, .inr (.inl g1)))] t.heap ∧ va_D (va_A [(xa38, .inr (4, [.ref xa39, .ref xa40, .int 0])), (xa39, .inl (kJ, 23, .inr (.inl f1)))] sz) [(xa38, .inr (4, [.ref xa39, .ref xa40, .int 0])), (xa39, .inl (kJ, 23, .inr (.inl g1)))]) (va_A [(xa38, .inr (4, [.ref xa39, .ref xa40, .int 0])), (xa39, .inl (kJ, 23, .inr (.inl f1)))] sz)) 0 0 (va_A [(xa38, .inr (4, [.ref xa39, .ref xa40, .int 0])), (xa39, .inl (kJ, 23, .inr (.inl f1)))] sz) := by
  refine Met.ofW (cc := cX4_begin) (maxL := 3) (ret := none) (by decide) rfl ?_
  intro p e s m args0 below meth c s₁ B hml hv
  obtain ⟨hargs, hsz, hP, hE, hD0⟩ := hv
  have hx := B.exec
  have hb := B.bytes
  have hr := B.returns
  have hts := atoms_spec (ws := wsX4_begin) B.pre
  have hown : s.vm.findClass RX4 = some m.cls := findClass_of_methodNamed B.named
  have hlocks := B.notSynchronized
  have hK := hE.1
  have hin4 : ∀ w ∈ wsX40, w ∈ wsX4_begin := fun _ h9 => List.mem_cons_of_mem _ (List.mem_append_right _ h9)
  subst hsz
  have hD := hD0.self (sz := s.heap.size)
  generalize hAe : va_A [(xa38, .inr (4, [.ref xa39, .ref xa40, .int 0])), (xa39, .inl (kJ, 23, .inr (.inl f1)))] s.heap.size = A at hD ⊢
  have hA : ∀ q : Nat, s.heap.size ≤ q → A q := fun q h => by rw [← hAe]; exact Or.inr h
  have hS : va_S A s.heap s.heap [] := va_S.rf
  have hP : va_P (dC, dI) vwCl [(xa38, .inr (4, [.ref xa39, .ref xa40, .int 0])), (xa39, .inl (kJ, 23, .inr (.inl f1)))] s.heap := hP
  have hl := lv_entry ([.ref xa38, .int 3]) (n := 3) (Nat.le_of_ble_eq_true rfl)
  have hla : entryFrame m args0 3 = entryFrame m ([.ref xa38, .int 3] : List Value).toArray 3 := by rw [hargs]
  rw [hla, lg_entry_eq]
  generalize (lg_sl ([.ref xa38, .int 3]) ++ List.replicate (3 - (lg_sl ([.ref xa38, .int 3])).length) Slot.unset).toArray = ls at hl ⊢
  have hl : lv_has ls 3 [(0, .ref xa38), (1, .int 3)] := hl
  refine lv_aload_n hx hb dX4_begin_0 rfl (lv_at hl 0 rfl) ?_
  refine va_get (D := (dC, dI)) (ci := 4) (v := .ref xa39) (C := RX4) (T := TX4) (N := 3) hx hb hts hin4 hown hK hP 0 rfl rfl 0 (by decide) (hts (.fieldLink RX4 9 "PathProber$Odds" "met" "[J") (List.mem_of_getElem? (i := 1) (by decide +kernel))) (fun _ h9 => h9) rfl dX4_begin_1 ?_
  refine lv_iconst (v := 0) hx hb dX4_begin_4 (by decide) ?_
  refine lv_ldc2 hx hb hown (hts (.constantLong RX4 23 (1000000000000)) (List.mem_of_getElem? (i := 2) (by decide +kernel))) dX4_begin_5 ?_
  refine va_last hx hb hK hP hD hS 1 2 rfl rfl (vp_in_nI (n := 0) (by decide) (by decide)) dX4_begin_8 (fun H locs hP hD hS => ?_)
  have hP : va_P (dC, dI) vwCl [(xa38, .inr (4, [.ref xa39, .ref xa40, .int 0])), (xa39, .inl (kJ, 23, .inr (.inl (vp_updL f1 0 1000000000000))))] H := hP
  have hD : va_D A [(xa38, .inr (4, [.ref xa39, .ref xa40, .int 0])), (xa39, .inl (kJ, 23, .inr (.inl (vp_updL f1 0 1000000000000))))] := hD
  refine lv_iconst (v := 1) hx hb dX4_begin_9 (by decide) ?_
  refine lv_istore_n (lv' := [(2, .int 1), (0, .ref xa38), (1, .int 3)]) hx hb dX4_begin_10 rfl hl (by decide) rfl (fun ls hl => ?_)
  refine lv_iload_n hx hb dX4_begin_11 rfl (lv_at hl 0 rfl) ?_
  refine lv_iload_n hx hb dX4_begin_12 rfl (lv_at hl 2 rfl) ?_
  refine lv_icmp_gt (tgt := 29) hx hb dX4_begin_13 (by decide) (fun c9 => absurd c9 (by decide)) (fun _ => ?_)
  refine lv_aload_n hx hb dX4_begin_16 rfl (lv_at hl 1 rfl) ?_
  refine va_get (D := (dC, dI)) (ci := 4) (v := .ref xa39) (C := RX4) (T := TX4) (N := 3) hx hb hts hin4 hown hK hP 0 rfl rfl 0 (by decide) (hts (.fieldLink RX4 9 "PathProber$Odds" "met" "[J") (List.mem_of_getElem? (i := 1) (by decide +kernel))) (fun _ h9 => h9) rfl dX4_begin_17 ?_
  refine lv_iload_n hx hb dX4_begin_20 rfl (lv_at hl 0 rfl) ?_
  refine lv_lconst (v := 0) hx hb dX4_begin_21 (by decide) ?_
  refine va_last hx hb hK hP hD hS 1 2 rfl rfl (vp_in_nI (n := 1) (by decide) (by decide)) dX4_begin_22 (fun H locs hP hD hS => ?_)
  have hP : va_P (dC, dI) vwCl [(xa38, .inr (4, [.ref xa39, .ref xa40, .int 0])), (xa39, .inl (kJ, 23, .inr (.inl (vp_updL (vp_updL f1 0 1000000000000) 1 0))))] H := hP
  have hD : va_D A [(xa38, .inr (4, [.ref xa39, .ref xa40, .int 0])), (xa39, .inl (kJ, 23, .inr (.inl (vp_updL (vp_updL f1 0 1000000000000) 1 0))))] := hD
  refine lv_iinc (v := 2) (lv' := [(2, .int 2), (0, .ref xa38), (1, .int 3)]) hx hb dX4_begin_23 hl (k := 0) rfl (by decide) (by decide) rfl (fun ls hl => ?_)
  refine lv_goto (tgt := 11) hx hb dX4_begin_26 (by decide) ?_
  refine lv_iload_n hx hb dX4_begin_11 rfl (lv_at hl 0 rfl) ?_
  refine lv_iload_n hx hb dX4_begin_12 rfl (lv_at hl 2 rfl) ?_
  refine lv_icmp_gt (tgt := 29) hx hb dX4_begin_13 (by decide) (fun c9 => absurd c9 (by decide)) (fun _ => ?_)
  refine lv_aload_n hx hb dX4_begin_16 rfl (lv_at hl 1 rfl) ?_
  refine va_get (D := (dC, dI)) (ci := 4) (v := .ref xa39) (C := RX4) (T := TX4) (N := 3) hx hb hts hin4 hown hK hP 0 rfl rfl 0 (by decide) (hts (.fieldLink RX4 9 "PathProber$Odds" "met" "[J") (List.mem_of_getElem? (i := 1) (by decide +kernel))) (fun _ h9 => h9) rfl dX4_begin_17 ?_
  refine lv_iload_n hx hb dX4_begin_20 rfl (lv_at hl 0 rfl) ?_
  refine lv_lconst (v := 0) hx hb dX4_begin_21 (by decide) ?_
  refine va_last hx hb hK hP hD hS 1 2 rfl rfl (vp_in_nI (n := 2) (by decide) (by decide)) dX4_begin_22 (fun H locs hP hD hS => ?_)
  have hP : va_P (dC, dI) vwCl [(xa38, .inr (4, [.ref xa39, .ref xa40, .int 0])), (xa39, .inl (kJ, 23, .inr (.inl (vp_updL (vp_updL (vp_updL f1 0 1000000000000) 1 0) 2 0))))] H := hP
  have hD : va_D A [(xa38, .inr (4, [.ref xa39, .ref xa40, .int 0])), (xa39, .inl (kJ, 23, .inr (.inl (vp_updL (vp_updL (vp_updL f1 0 1000000000000) 1 0) 2 0))))] := hD
  refine lv_iinc (v := 3) (lv' := [(2, .int 3), (0, .ref xa38), (1, .int 3)]) hx hb dX4_begin_23 hl (k := 0) rfl (by decide) (by decide) rfl (fun ls hl => ?_)
  refine lv_goto (tgt := 11) hx hb dX4_begin_26 (by decide) ?_
  refine lv_iload_n hx hb dX4_begin_11 rfl (lv_at hl 0 rfl) ?_
  refine lv_iload_n hx hb dX4_begin_12 rfl (lv_at hl 2 rfl) ?_
  refine lv_icmp_gt (tgt := 29) hx hb dX4_begin_13 (by decide) (fun c9 => absurd c9 (by decide)) (fun _ => ?_)
  refine lv_aload_n hx hb dX4_begin_16 rfl (lv_at hl 1 rfl) ?_
  refine va_get (D := (dC, dI)) (ci := 4) (v := .ref xa39) (C := RX4) (T := TX4) (N := 3) hx hb hts hin4 hown hK hP 0 rfl rfl 0 (by decide) (hts (.fieldLink RX4 9 "PathProber$Odds" "met" "[J") (List.mem_of_getElem? (i := 1) (by decide +kernel))) (fun _ h9 => h9) rfl dX4_begin_17 ?_
  refine lv_iload_n hx hb dX4_begin_20 rfl (lv_at hl 0 rfl) ?_
  refine lv_lconst (v := 0) hx hb dX4_begin_21 (by decide) ?_
  refine va_last hx hb hK hP hD hS 1 2 rfl rfl (vp_in_nI (n := 3) (by decide) (by decide)) dX4_begin_22 (fun H locs hP hD hS => ?_)
  have hP : va_P (dC, dI) vwCl [(xa38, .inr (4, [.ref xa39, .ref xa40, .int 0])), (xa39, .inl (kJ, 23, .inr (.inl (vp_updL (vp_updL (vp_updL (vp_updL f1 0 1000000000000) 1 0) 2 0) 3 0))))] H := hP
  have hD : va_D A [(xa38, .inr (4, [.ref xa39, .ref xa40, .int 0])), (xa39, .inl (kJ, 23, .inr (.inl (vp_updL (vp_updL (vp_updL (vp_updL f1 0 1000000000000) 1 0) 2 0) 3 0))))] := hD
  refine lv_iinc (v := 4) (lv' := [(2, .int 4), (0, .ref xa38), (1, .int 3)]) hx hb dX4_begin_23 hl (k := 0) rfl (by decide) (by decide) rfl (fun ls hl => ?_)
  refine lv_goto (tgt := 11) hx hb dX4_begin_26 (by decide) ?_
  refine lv_iload_n hx hb dX4_begin_11 rfl (lv_at hl 0 rfl) ?_
  refine lv_iload_n hx hb dX4_begin_12 rfl (lv_at hl 2 rfl) ?_
  refine lv_icmp_gt (tgt := 29) hx hb dX4_begin_13 (by decide) (fun _ => ?_) (fun c9 => absurd (by decide) c9)
  have hP9 := hP.sub (ws' := [(xa38, .inr (4, [.ref xa39, .ref xa40, .int 0])), (xa39, .inl (kJ, 23, .inr (.inl (vp_updL (vp_updL (vp_updL (vp_updL f1 0 1000000000000) 1 0) 2 0) 3 0))))]) [0, 1] rfl
  have hD9 := hD.sub (ws' := [(xa38, .inr (4, [.ref xa39, .ref xa40, .int 0])), (xa39, .inl (kJ, 23, .inr (.inl (vp_updL (vp_updL (vp_updL (vp_updL f1 0 1000000000000) 1 0) 2 0) 3 0))))]) [0, 1] (by decide) rfl
  exact W.vret hx hb hr (fun t ht hW => ⟨⟨(), rfl, trivial, vp_updL (vp_updL (vp_updL (vp_updL f1 0 1000000000000) 1 0) 2 0) 3 0, rfl, rfl, rfl, rfl, by rw [ht]; exact hP9, hD9⟩, hS.F ht⟩) hS.2.2 dX4_begin_29
def rm_k4_sendNext_3 : Room := { frames := 0, cells := 0, slots := 0, locals := 0 }
set_option maxHeartbeats 4000000 in
set_option maxRecDepth 100000 in
theorem k4_sendNext_3 (l : Launch) (dC : Nat → ClassId) (dI : Nat → Nat → Nat) (kB kI kJ kZ kC kS : ClassId) (sz : Nat) (xa38 : Nat) (xa39 : Nat) (xa40 : Nat) (f1 : Nat → Int64) : Met l yX4_sendNext wsX4_sendNext rm_k4_sendNext_3 (va_Pc [.ref xa38, .int 3] (fun U => U.heap.size = sz ∧ va_P (dC, dI) vwCl [(xa38, .inr (4, [.ref xa39, .ref xa40, .int 0])), (xa39, .inl (kJ, 23, .inr (.inl f1)))] U.heap ∧ kE dC dI kB kI kJ kZ kC kS U ∧ va_D (fun _ => True) [(xa38, .inr (4, [.ref xa39, .ref xa40, .int 0])), (xa39, .inl (kJ, 23, .inr (.inl f1)))])) (va_Qv (fun (_ : Unit) => True) (fun _ t => ∃ (g1 : Nat → Int64), g1 0 = f1 0 * 0 / 3 ∧ g1 1 = f1 1 * 1 / 3 + (f1 0 - f1 0 * 0 / 3) ∧ g1 2 = f1 2 * 2 / 3 + (f1 1 - f1 1 * 1 / 3) ∧ g1 3 = f1 3 + (f1 2 - f1 2 * 2 / 3) ∧ va_P (dC, dI) vwCl [(xa38, .inr (4, [.ref xa39, .ref xa40, .int 0])), (xa39, .inl (kJ, 23, .inr (.inl g1)))] t.heap ∧ va_D (va_A [(xa38, .inr (4, [.ref xa39, .ref xa40, .int 0])), (xa39, .inl (kJ, 23, .inr (.inl f1)))] sz) [(xa38, .inr (4, [.ref xa39, .ref xa40, .int 0])), (xa39, .inl (kJ, 23, .inr (.inl g1)))]) (va_A [(xa38, .inr (4, [.ref xa39, .ref xa40, .int 0])), (xa39, .inl (kJ, 23, .inr (.inl f1)))] sz)) 0 0 (va_A [(xa38, .inr (4, [.ref xa39, .ref xa40, .int 0])), (xa39, .inl (kJ, 23, .inr (.inl f1)))] sz) := by
  refine Met.ofW (cc := cX4_sendNext) (maxL := 5) (ret := none) (by decide) rfl ?_
  intro p e s m args0 below meth c s₁ B hml hv
  obtain ⟨hargs, hsz, hP, hE, hD0⟩ := hv
  have hx := B.exec
  have hb := B.bytes
  have hr := B.returns
  have hts := atoms_spec (ws := wsX4_sendNext) B.pre
  have hown : s.vm.findClass RX4 = some m.cls := findClass_of_methodNamed B.named
  have hlocks := B.notSynchronized
  have hK := hE.1
  have hin4 : ∀ w ∈ wsX40, w ∈ wsX4_sendNext := fun _ h9 => List.mem_cons_of_mem _ (List.mem_append_right _ h9)
  subst hsz
  have hD := hD0.self (sz := s.heap.size)
  generalize hAe : va_A [(xa38, .inr (4, [.ref xa39, .ref xa40, .int 0])), (xa39, .inl (kJ, 23, .inr (.inl f1)))] s.heap.size = A at hD ⊢
  have hA : ∀ q : Nat, s.heap.size ≤ q → A q := fun q h => by rw [← hAe]; exact Or.inr h
  have hS : va_S A s.heap s.heap [] := va_S.rf
  have hP : va_P (dC, dI) vwCl [(xa38, .inr (4, [.ref xa39, .ref xa40, .int 0])), (xa39, .inl (kJ, 23, .inr (.inl f1)))] s.heap := hP
  have hl := lv_entry ([.ref xa38, .int 3]) (n := 5) (Nat.le_of_ble_eq_true rfl)
  have hla : entryFrame m args0 5 = entryFrame m ([.ref xa38, .int 3] : List Value).toArray 5 := by rw [hargs]
  rw [hla, lg_entry_eq]
  generalize (lg_sl ([.ref xa38, .int 3]) ++ List.replicate (5 - (lg_sl ([.ref xa38, .int 3])).length) Slot.unset).toArray = ls at hl ⊢
  have hl : lv_has ls 5 [(0, .ref xa38), (1, .int 3)] := hl
  refine lv_iload_n hx hb dX4_sendNext_0 rfl (lv_at hl 1 rfl) ?_
  refine lv_iconst (v := 1) hx hb dX4_sendNext_1 (by decide) ?_
  refine lv_icmp_lt (tgt := 14) hx hb dX4_sendNext_2 (by decide) (fun c9 => absurd c9 (by decide)) (fun _ => ?_)
  refine lv_iload_n hx hb dX4_sendNext_5 rfl (lv_at hl 1 rfl) ?_
  refine lv_aload_n hx hb dX4_sendNext_6 rfl (lv_at hl 0 rfl) ?_
  refine va_get (D := (dC, dI)) (ci := 4) (v := .ref xa39) (C := RX4) (T := TX4) (N := 3) hx hb hts hin4 hown hK hP 0 rfl rfl 0 (by decide) (hts (.fieldLink RX4 9 "PathProber$Odds" "met" "[J") (List.mem_of_getElem? (i := 1) (by decide +kernel))) (fun _ h9 => h9) rfl dX4_sendNext_7 ?_
  refine va_alen (v := 23) hx hb hK hP 1 2 rfl rfl rfl dX4_sendNext_10 ?_
  refine lv_icmp_lt (tgt := 15) hx hb dX4_sendNext_11 (by decide) (fun _ => ?_) (fun c9 => absurd (by decide) c9)
  refine lv_iload_n hx hb dX4_sendNext_15 rfl (lv_at hl 1 rfl) ?_
  refine lv_iconst (v := 1) hx hb dX4_sendNext_16 (by decide) ?_
  refine lv_isub hx hb dX4_sendNext_17 ?_
  refine lv_topi (fun z1 e2 => ?_)
  obtain rfl : z1 = (2 : Int32) := e2.trans (by decide)
  refine lv_istore_n (lv' := [(2, .int 2), (0, .ref xa38), (1, .int 3)]) hx hb dX4_sendNext_18 rfl hl (by decide) rfl (fun ls hl => ?_)
  refine lv_iload_n hx hb dX4_sendNext_19 rfl (lv_at hl 0 rfl) ?_
  refine lv_if_lt (tgt := 68) hx hb dX4_sendNext_20 (by decide) (fun c9 => absurd c9 (by decide)) (fun _ => ?_)
  refine lv_aload_n hx hb dX4_sendNext_23 rfl (lv_at hl 1 rfl) ?_
  refine va_get (D := (dC, dI)) (ci := 4) (v := .ref xa39) (C := RX4) (T := TX4) (N := 3) hx hb hts hin4 hown hK hP 0 rfl rfl 0 (by decide) (hts (.fieldLink RX4 9 "PathProber$Odds" "met" "[J") (List.mem_of_getElem? (i := 1) (by decide +kernel))) (fun _ h9 => h9) rfl dX4_sendNext_24 ?_
  refine lv_iload_n hx hb dX4_sendNext_27 rfl (lv_at hl 0 rfl) ?_
  refine va_lald hx hb hK hP 1 2 rfl rfl (vp_in_nI (n := 2) (by decide) (by decide)) dX4_sendNext_28 ?_
  refine lv_topl (fun z3 e4 => ?_)
  obtain rfl : z3 = (f1 2 : Int64) := e4
  refine lv_iload_n hx hb dX4_sendNext_29 rfl (lv_at hl 0 rfl) ?_
  refine lv_i2l (v := 2) hx hb dX4_sendNext_30 (by decide) ?_
  refine lv_lmul hx hb dX4_sendNext_31 ?_
  refine lv_iload_n hx hb dX4_sendNext_32 rfl (lv_at hl 2 rfl) ?_
  refine lv_i2l (v := 3) hx hb dX4_sendNext_33 (by decide) ?_
  refine lv_ldiv hx hb dX4_sendNext_34 (by decide) ?_
  refine lv_lstore_n (lv' := [(3, .long (((f1 2) * 2) / 3)), (2, .int 2), (0, .ref xa38), (1, .int 3)]) hx hb dX4_sendNext_35 rfl hl (by decide) rfl (fun ls hl => ?_)
  refine lv_aload_n hx hb dX4_sendNext_36 rfl (lv_at hl 2 rfl) ?_
  refine va_get (D := (dC, dI)) (ci := 4) (v := .ref xa39) (C := RX4) (T := TX4) (N := 3) hx hb hts hin4 hown hK hP 0 rfl rfl 0 (by decide) (hts (.fieldLink RX4 9 "PathProber$Odds" "met" "[J") (List.mem_of_getElem? (i := 1) (by decide +kernel))) (fun _ h9 => h9) rfl dX4_sendNext_37 ?_
  refine lv_iload_n hx hb dX4_sendNext_40 rfl (lv_at hl 1 rfl) ?_
  refine lv_iconst (v := 1) hx hb dX4_sendNext_41 (by decide) ?_
  refine lv_iadd hx hb dX4_sendNext_42 ?_
  refine lv_topi (fun z5 e6 => ?_)
  obtain rfl : z5 = (3 : Int32) := e6.trans (by decide)
  refine lv_dup2_11 hx hb dX4_sendNext_43 rfl rfl ?_
  refine va_lald hx hb hK hP 1 2 rfl rfl (vp_in_nI (n := 3) (by decide) (by decide)) dX4_sendNext_44 ?_
  refine lv_topl (fun z7 e8 => ?_)
  obtain rfl : z7 = (f1 3 : Int64) := e8
  refine lv_aload_n hx hb dX4_sendNext_45 rfl (lv_at hl 2 rfl) ?_
  refine va_get (D := (dC, dI)) (ci := 4) (v := .ref xa39) (C := RX4) (T := TX4) (N := 3) hx hb hts hin4 hown hK hP 0 rfl rfl 0 (by decide) (hts (.fieldLink RX4 9 "PathProber$Odds" "met" "[J") (List.mem_of_getElem? (i := 1) (by decide +kernel))) (fun _ h9 => h9) rfl dX4_sendNext_46 ?_
  refine lv_iload_n hx hb dX4_sendNext_49 rfl (lv_at hl 1 rfl) ?_
  refine va_lald hx hb hK hP 1 2 rfl rfl (vp_in_nI (n := 2) (by decide) (by decide)) dX4_sendNext_50 ?_
  refine lv_topl (fun z9 e10 => ?_)
  obtain rfl : z9 = (f1 2 : Int64) := e10
  refine lv_lload_n hx hb dX4_sendNext_51 rfl (lv_at hl 0 rfl) ?_
  refine lv_lsub hx hb dX4_sendNext_52 ?_
  refine lv_ladd hx hb dX4_sendNext_53 ?_
  refine va_last hx hb hK hP hD hS 1 2 rfl rfl (vp_in_nI (n := 3) (by decide) (by decide)) dX4_sendNext_54 (fun H locs hP hD hS => ?_)
  have hP : va_P (dC, dI) vwCl [(xa38, .inr (4, [.ref xa39, .ref xa40, .int 0])), (xa39, .inl (kJ, 23, .inr (.inl (vp_updL f1 3 ((f1 3) + ((f1 2) - (((f1 2) * 2) / 3)))))))] H := hP
  have hD : va_D A [(xa38, .inr (4, [.ref xa39, .ref xa40, .int 0])), (xa39, .inl (kJ, 23, .inr (.inl (vp_updL f1 3 ((f1 3) + ((f1 2) - (((f1 2) * 2) / 3)))))))] := hD
  refine lv_aload_n hx hb dX4_sendNext_55 rfl (lv_at hl 2 rfl) ?_
  refine va_get (D := (dC, dI)) (ci := 4) (v := .ref xa39) (C := RX4) (T := TX4) (N := 3) hx hb hts hin4 hown hK hP 0 rfl rfl 0 (by decide) (hts (.fieldLink RX4 9 "PathProber$Odds" "met" "[J") (List.mem_of_getElem? (i := 1) (by decide +kernel))) (fun _ h9 => h9) rfl dX4_sendNext_56 ?_
  refine lv_iload_n hx hb dX4_sendNext_59 rfl (lv_at hl 1 rfl) ?_
  refine lv_lload_n hx hb dX4_sendNext_60 rfl (lv_at hl 0 rfl) ?_
  refine va_last hx hb hK hP hD hS 1 2 rfl rfl (vp_in_nI (n := 2) (by decide) (by decide)) dX4_sendNext_61 (fun H locs hP hD hS => ?_)
  have hP : va_P (dC, dI) vwCl [(xa38, .inr (4, [.ref xa39, .ref xa40, .int 0])), (xa39, .inl (kJ, 23, .inr (.inl (vp_updL (vp_updL f1 3 ((f1 3) + ((f1 2) - (((f1 2) * 2) / 3)))) 2 (((f1 2) * 2) / 3)))))] H := hP
  have hD : va_D A [(xa38, .inr (4, [.ref xa39, .ref xa40, .int 0])), (xa39, .inl (kJ, 23, .inr (.inl (vp_updL (vp_updL f1 3 ((f1 3) + ((f1 2) - (((f1 2) * 2) / 3)))) 2 (((f1 2) * 2) / 3)))))] := hD
  refine lv_iinc (v := 1) (lv' := [(2, .int 1), (3, .long (((f1 2) * 2) / 3)), (0, .ref xa38), (1, .int 3)]) hx hb dX4_sendNext_62 hl (k := 1) rfl (by decide) (by decide) rfl (fun ls hl => ?_)
  refine lv_goto (tgt := 19) hx hb dX4_sendNext_65 (by decide) ?_
  refine lv_iload_n hx hb dX4_sendNext_19 rfl (lv_at hl 0 rfl) ?_
  refine lv_if_lt (tgt := 68) hx hb dX4_sendNext_20 (by decide) (fun c9 => absurd c9 (by decide)) (fun _ => ?_)
  refine lv_aload_n hx hb dX4_sendNext_23 rfl (lv_at hl 2 rfl) ?_
  refine va_get (D := (dC, dI)) (ci := 4) (v := .ref xa39) (C := RX4) (T := TX4) (N := 3) hx hb hts hin4 hown hK hP 0 rfl rfl 0 (by decide) (hts (.fieldLink RX4 9 "PathProber$Odds" "met" "[J") (List.mem_of_getElem? (i := 1) (by decide +kernel))) (fun _ h9 => h9) rfl dX4_sendNext_24 ?_
  refine lv_iload_n hx hb dX4_sendNext_27 rfl (lv_at hl 0 rfl) ?_
  refine va_lald hx hb hK hP 1 2 rfl rfl (vp_in_nI (n := 1) (by decide) (by decide)) dX4_sendNext_28 ?_
  refine lv_topl (fun z11 e12 => ?_)
  obtain rfl : z11 = (f1 1 : Int64) := e12
  refine lv_iload_n hx hb dX4_sendNext_29 rfl (lv_at hl 0 rfl) ?_
  refine lv_i2l (v := 1) hx hb dX4_sendNext_30 (by decide) ?_
  refine lv_lmul hx hb dX4_sendNext_31 ?_
  refine lv_iload_n hx hb dX4_sendNext_32 rfl (lv_at hl 3 rfl) ?_
  refine lv_i2l (v := 3) hx hb dX4_sendNext_33 (by decide) ?_
  refine lv_ldiv hx hb dX4_sendNext_34 (by decide) ?_
  refine lv_lstore_n (lv' := [(3, .long (((f1 1) * 1) / 3)), (2, .int 1), (0, .ref xa38), (1, .int 3)]) hx hb dX4_sendNext_35 rfl hl (by decide) rfl (fun ls hl => ?_)
  refine lv_aload_n hx hb dX4_sendNext_36 rfl (lv_at hl 2 rfl) ?_
  refine va_get (D := (dC, dI)) (ci := 4) (v := .ref xa39) (C := RX4) (T := TX4) (N := 3) hx hb hts hin4 hown hK hP 0 rfl rfl 0 (by decide) (hts (.fieldLink RX4 9 "PathProber$Odds" "met" "[J") (List.mem_of_getElem? (i := 1) (by decide +kernel))) (fun _ h9 => h9) rfl dX4_sendNext_37 ?_
  refine lv_iload_n hx hb dX4_sendNext_40 rfl (lv_at hl 1 rfl) ?_
  refine lv_iconst (v := 1) hx hb dX4_sendNext_41 (by decide) ?_
  refine lv_iadd hx hb dX4_sendNext_42 ?_
  refine lv_topi (fun z13 e14 => ?_)
  obtain rfl : z13 = (2 : Int32) := e14.trans (by decide)
  refine lv_dup2_11 hx hb dX4_sendNext_43 rfl rfl ?_
  refine va_lald hx hb hK hP 1 2 rfl rfl (vp_in_nI (n := 2) (by decide) (by decide)) dX4_sendNext_44 ?_
  refine lv_topl (fun z15 e16 => ?_)
  obtain rfl : z15 = (((f1 2) * 2) / 3 : Int64) := e16
  refine lv_aload_n hx hb dX4_sendNext_45 rfl (lv_at hl 2 rfl) ?_
  refine va_get (D := (dC, dI)) (ci := 4) (v := .ref xa39) (C := RX4) (T := TX4) (N := 3) hx hb hts hin4 hown hK hP 0 rfl rfl 0 (by decide) (hts (.fieldLink RX4 9 "PathProber$Odds" "met" "[J") (List.mem_of_getElem? (i := 1) (by decide +kernel))) (fun _ h9 => h9) rfl dX4_sendNext_46 ?_
  refine lv_iload_n hx hb dX4_sendNext_49 rfl (lv_at hl 1 rfl) ?_
  refine va_lald hx hb hK hP 1 2 rfl rfl (vp_in_nI (n := 1) (by decide) (by decide)) dX4_sendNext_50 ?_
  refine lv_topl (fun z17 e18 => ?_)
  obtain rfl : z17 = (f1 1 : Int64) := e18
  refine lv_lload_n hx hb dX4_sendNext_51 rfl (lv_at hl 0 rfl) ?_
  refine lv_lsub hx hb dX4_sendNext_52 ?_
  refine lv_ladd hx hb dX4_sendNext_53 ?_
  refine va_last hx hb hK hP hD hS 1 2 rfl rfl (vp_in_nI (n := 2) (by decide) (by decide)) dX4_sendNext_54 (fun H locs hP hD hS => ?_)
  have hP : va_P (dC, dI) vwCl [(xa38, .inr (4, [.ref xa39, .ref xa40, .int 0])), (xa39, .inl (kJ, 23, .inr (.inl (vp_updL (vp_updL (vp_updL f1 3 ((f1 3) + ((f1 2) - (((f1 2) * 2) / 3)))) 2 (((f1 2) * 2) / 3)) 2 ((((f1 2) * 2) / 3) + ((f1 1) - (((f1 1) * 1) / 3)))))))] H := hP
  have hD : va_D A [(xa38, .inr (4, [.ref xa39, .ref xa40, .int 0])), (xa39, .inl (kJ, 23, .inr (.inl (vp_updL (vp_updL (vp_updL f1 3 ((f1 3) + ((f1 2) - (((f1 2) * 2) / 3)))) 2 (((f1 2) * 2) / 3)) 2 ((((f1 2) * 2) / 3) + ((f1 1) - (((f1 1) * 1) / 3)))))))] := hD
  refine lv_aload_n hx hb dX4_sendNext_55 rfl (lv_at hl 2 rfl) ?_
  refine va_get (D := (dC, dI)) (ci := 4) (v := .ref xa39) (C := RX4) (T := TX4) (N := 3) hx hb hts hin4 hown hK hP 0 rfl rfl 0 (by decide) (hts (.fieldLink RX4 9 "PathProber$Odds" "met" "[J") (List.mem_of_getElem? (i := 1) (by decide +kernel))) (fun _ h9 => h9) rfl dX4_sendNext_56 ?_
  refine lv_iload_n hx hb dX4_sendNext_59 rfl (lv_at hl 1 rfl) ?_
  refine lv_lload_n hx hb dX4_sendNext_60 rfl (lv_at hl 0 rfl) ?_
  refine va_last hx hb hK hP hD hS 1 2 rfl rfl (vp_in_nI (n := 1) (by decide) (by decide)) dX4_sendNext_61 (fun H locs hP hD hS => ?_)
  have hP : va_P (dC, dI) vwCl [(xa38, .inr (4, [.ref xa39, .ref xa40, .int 0])), (xa39, .inl (kJ, 23, .inr (.inl (vp_updL (vp_updL (vp_updL (vp_updL f1 3 ((f1 3) + ((f1 2) - (((f1 2) * 2) / 3)))) 2 (((f1 2) * 2) / 3)) 2 ((((f1 2) * 2) / 3) + ((f1 1) - (((f1 1) * 1) / 3)))) 1 (((f1 1) * 1) / 3)))))] H := hP
  have hD : va_D A [(xa38, .inr (4, [.ref xa39, .ref xa40, .int 0])), (xa39, .inl (kJ, 23, .inr (.inl (vp_updL (vp_updL (vp_updL (vp_updL f1 3 ((f1 3) + ((f1 2) - (((f1 2) * 2) / 3)))) 2 (((f1 2) * 2) / 3)) 2 ((((f1 2) * 2) / 3) + ((f1 1) - (((f1 1) * 1) / 3)))) 1 (((f1 1) * 1) / 3)))))] := hD
  refine lv_iinc (v := 0) (lv' := [(2, .int 0), (3, .long (((f1 1) * 1) / 3)), (0, .ref xa38), (1, .int 3)]) hx hb dX4_sendNext_62 hl (k := 1) rfl (by decide) (by decide) rfl (fun ls hl => ?_)
  refine lv_goto (tgt := 19) hx hb dX4_sendNext_65 (by decide) ?_
  refine lv_iload_n hx hb dX4_sendNext_19 rfl (lv_at hl 0 rfl) ?_
  refine lv_if_lt (tgt := 68) hx hb dX4_sendNext_20 (by decide) (fun c9 => absurd c9 (by decide)) (fun _ => ?_)
  refine lv_aload_n hx hb dX4_sendNext_23 rfl (lv_at hl 2 rfl) ?_
  refine va_get (D := (dC, dI)) (ci := 4) (v := .ref xa39) (C := RX4) (T := TX4) (N := 3) hx hb hts hin4 hown hK hP 0 rfl rfl 0 (by decide) (hts (.fieldLink RX4 9 "PathProber$Odds" "met" "[J") (List.mem_of_getElem? (i := 1) (by decide +kernel))) (fun _ h9 => h9) rfl dX4_sendNext_24 ?_
  refine lv_iload_n hx hb dX4_sendNext_27 rfl (lv_at hl 0 rfl) ?_
  refine va_lald hx hb hK hP 1 2 rfl rfl (vp_in_nI (n := 0) (by decide) (by decide)) dX4_sendNext_28 ?_
  refine lv_topl (fun z19 e20 => ?_)
  obtain rfl : z19 = (f1 0 : Int64) := e20
  refine lv_iload_n hx hb dX4_sendNext_29 rfl (lv_at hl 0 rfl) ?_
  refine lv_i2l (v := 0) hx hb dX4_sendNext_30 (by decide) ?_
  refine lv_lmul hx hb dX4_sendNext_31 ?_
  refine lv_iload_n hx hb dX4_sendNext_32 rfl (lv_at hl 3 rfl) ?_
  refine lv_i2l (v := 3) hx hb dX4_sendNext_33 (by decide) ?_
  refine lv_ldiv hx hb dX4_sendNext_34 (by decide) ?_
  refine lv_lstore_n (lv' := [(3, .long (((f1 0) * 0) / 3)), (2, .int 0), (0, .ref xa38), (1, .int 3)]) hx hb dX4_sendNext_35 rfl hl (by decide) rfl (fun ls hl => ?_)
  refine lv_aload_n hx hb dX4_sendNext_36 rfl (lv_at hl 2 rfl) ?_
  refine va_get (D := (dC, dI)) (ci := 4) (v := .ref xa39) (C := RX4) (T := TX4) (N := 3) hx hb hts hin4 hown hK hP 0 rfl rfl 0 (by decide) (hts (.fieldLink RX4 9 "PathProber$Odds" "met" "[J") (List.mem_of_getElem? (i := 1) (by decide +kernel))) (fun _ h9 => h9) rfl dX4_sendNext_37 ?_
  refine lv_iload_n hx hb dX4_sendNext_40 rfl (lv_at hl 1 rfl) ?_
  refine lv_iconst (v := 1) hx hb dX4_sendNext_41 (by decide) ?_
  refine lv_iadd hx hb dX4_sendNext_42 ?_
  refine lv_topi (fun z21 e22 => ?_)
  obtain rfl : z21 = (1 : Int32) := e22.trans (by decide)
  refine lv_dup2_11 hx hb dX4_sendNext_43 rfl rfl ?_
  refine va_lald hx hb hK hP 1 2 rfl rfl (vp_in_nI (n := 1) (by decide) (by decide)) dX4_sendNext_44 ?_
  refine lv_topl (fun z23 e24 => ?_)
  obtain rfl : z23 = (((f1 1) * 1) / 3 : Int64) := e24
  refine lv_aload_n hx hb dX4_sendNext_45 rfl (lv_at hl 2 rfl) ?_
  refine va_get (D := (dC, dI)) (ci := 4) (v := .ref xa39) (C := RX4) (T := TX4) (N := 3) hx hb hts hin4 hown hK hP 0 rfl rfl 0 (by decide) (hts (.fieldLink RX4 9 "PathProber$Odds" "met" "[J") (List.mem_of_getElem? (i := 1) (by decide +kernel))) (fun _ h9 => h9) rfl dX4_sendNext_46 ?_
  refine lv_iload_n hx hb dX4_sendNext_49 rfl (lv_at hl 1 rfl) ?_
  refine va_lald hx hb hK hP 1 2 rfl rfl (vp_in_nI (n := 0) (by decide) (by decide)) dX4_sendNext_50 ?_
  refine lv_topl (fun z25 e26 => ?_)
  obtain rfl : z25 = (f1 0 : Int64) := e26
  refine lv_lload_n hx hb dX4_sendNext_51 rfl (lv_at hl 0 rfl) ?_
  refine lv_lsub hx hb dX4_sendNext_52 ?_
  refine lv_ladd hx hb dX4_sendNext_53 ?_
  refine va_last hx hb hK hP hD hS 1 2 rfl rfl (vp_in_nI (n := 1) (by decide) (by decide)) dX4_sendNext_54 (fun H locs hP hD hS => ?_)
  have hP : va_P (dC, dI) vwCl [(xa38, .inr (4, [.ref xa39, .ref xa40, .int 0])), (xa39, .inl (kJ, 23, .inr (.inl (vp_updL (vp_updL (vp_updL (vp_updL (vp_updL f1 3 ((f1 3) + ((f1 2) - (((f1 2) * 2) / 3)))) 2 (((f1 2) * 2) / 3)) 2 ((((f1 2) * 2) / 3) + ((f1 1) - (((f1 1) * 1) / 3)))) 1 (((f1 1) * 1) / 3)) 1 ((((f1 1) * 1) / 3) + ((f1 0) - (((f1 0) * 0) / 3)))))))] H := hP
  have hD : va_D A [(xa38, .inr (4, [.ref xa39, .ref xa40, .int 0])), (xa39, .inl (kJ, 23, .inr (.inl (vp_updL (vp_updL (vp_updL (vp_updL (vp_updL f1 3 ((f1 3) + ((f1 2) - (((f1 2) * 2) / 3)))) 2 (((f1 2) * 2) / 3)) 2 ((((f1 2) * 2) / 3) + ((f1 1) - (((f1 1) * 1) / 3)))) 1 (((f1 1) * 1) / 3)) 1 ((((f1 1) * 1) / 3) + ((f1 0) - (((f1 0) * 0) / 3)))))))] := hD
  refine lv_aload_n hx hb dX4_sendNext_55 rfl (lv_at hl 2 rfl) ?_
  refine va_get (D := (dC, dI)) (ci := 4) (v := .ref xa39) (C := RX4) (T := TX4) (N := 3) hx hb hts hin4 hown hK hP 0 rfl rfl 0 (by decide) (hts (.fieldLink RX4 9 "PathProber$Odds" "met" "[J") (List.mem_of_getElem? (i := 1) (by decide +kernel))) (fun _ h9 => h9) rfl dX4_sendNext_56 ?_
  refine lv_iload_n hx hb dX4_sendNext_59 rfl (lv_at hl 1 rfl) ?_
  refine lv_lload_n hx hb dX4_sendNext_60 rfl (lv_at hl 0 rfl) ?_
  refine va_last hx hb hK hP hD hS 1 2 rfl rfl (vp_in_nI (n := 0) (by decide) (by decide)) dX4_sendNext_61 (fun H locs hP hD hS => ?_)
  have hP : va_P (dC, dI) vwCl [(xa38, .inr (4, [.ref xa39, .ref xa40, .int 0])), (xa39, .inl (kJ, 23, .inr (.inl (vp_updL (vp_updL (vp_updL (vp_updL (vp_updL (vp_updL f1 3 ((f1 3) + ((f1 2) - (((f1 2) * 2) / 3)))) 2 (((f1 2) * 2) / 3)) 2 ((((f1 2) * 2) / 3) + ((f1 1) - (((f1 1) * 1) / 3)))) 1 (((f1 1) * 1) / 3)) 1 ((((f1 1) * 1) / 3) + ((f1 0) - (((f1 0) * 0) / 3)))) 0 (((f1 0) * 0) / 3)))))] H := hP
  have hD : va_D A [(xa38, .inr (4, [.ref xa39, .ref xa40, .int 0])), (xa39, .inl (kJ, 23, .inr (.inl (vp_updL (vp_updL (vp_updL (vp_updL (vp_updL (vp_updL f1 3 ((f1 3) + ((f1 2) - (((f1 2) * 2) / 3)))) 2 (((f1 2) * 2) / 3)) 2 ((((f1 2) * 2) / 3) + ((f1 1) - (((f1 1) * 1) / 3)))) 1 (((f1 1) * 1) / 3)) 1 ((((f1 1) * 1) / 3) + ((f1 0) - (((f1 0) * 0) / 3)))) 0 (((f1 0) * 0) / 3)))))] := hD
  refine lv_iinc (v := (-1)) (lv' := [(2, .int (-1)), (3, .long (((f1 0) * 0) / 3)), (0, .ref xa38), (1, .int 3)]) hx hb dX4_sendNext_62 hl (k := 1) rfl (by decide) (by decide) rfl (fun ls hl => ?_)
  refine lv_goto (tgt := 19) hx hb dX4_sendNext_65 (by decide) ?_
  refine lv_iload_n hx hb dX4_sendNext_19 rfl (lv_at hl 0 rfl) ?_
  refine lv_if_lt (tgt := 68) hx hb dX4_sendNext_20 (by decide) (fun _ => ?_) (fun c9 => absurd (by decide) c9)
  have hP9 := hP.sub (ws' := [(xa38, .inr (4, [.ref xa39, .ref xa40, .int 0])), (xa39, .inl (kJ, 23, .inr (.inl (vp_updL (vp_updL (vp_updL (vp_updL (vp_updL (vp_updL f1 3 ((f1 3) + ((f1 2) - (((f1 2) * 2) / 3)))) 2 (((f1 2) * 2) / 3)) 2 ((((f1 2) * 2) / 3) + ((f1 1) - (((f1 1) * 1) / 3)))) 1 (((f1 1) * 1) / 3)) 1 ((((f1 1) * 1) / 3) + ((f1 0) - (((f1 0) * 0) / 3)))) 0 (((f1 0) * 0) / 3)))))]) [0, 1] rfl
  have hD9 := hD.sub (ws' := [(xa38, .inr (4, [.ref xa39, .ref xa40, .int 0])), (xa39, .inl (kJ, 23, .inr (.inl (vp_updL (vp_updL (vp_updL (vp_updL (vp_updL (vp_updL f1 3 ((f1 3) + ((f1 2) - (((f1 2) * 2) / 3)))) 2 (((f1 2) * 2) / 3)) 2 ((((f1 2) * 2) / 3) + ((f1 1) - (((f1 1) * 1) / 3)))) 1 (((f1 1) * 1) / 3)) 1 ((((f1 1) * 1) / 3) + ((f1 0) - (((f1 0) * 0) / 3)))) 0 (((f1 0) * 0) / 3)))))]) [0, 1] (by decide) rfl
  exact W.vret hx hb hr (fun t ht hW => ⟨⟨(), rfl, trivial, vp_updL (vp_updL (vp_updL (vp_updL (vp_updL (vp_updL f1 3 ((f1 3) + ((f1 2) - (((f1 2) * 2) / 3)))) 2 (((f1 2) * 2) / 3)) 2 ((((f1 2) * 2) / 3) + ((f1 1) - (((f1 1) * 1) / 3)))) 1 (((f1 1) * 1) / 3)) 1 ((((f1 1) * 1) / 3) + ((f1 0) - (((f1 0) * 0) / 3)))) 0 (((f1 0) * 0) / 3), rfl, rfl, rfl, rfl, by rw [ht]; exact hP9, hD9⟩, hS.F ht⟩) hS.2.2 dX4_sendNext_68
def rm_k4_begin_4 : Room := { frames := 0, cells := 0, slots := 0, locals := 0 }
set_option maxHeartbeats 4000000 in
set_option maxRecDepth 100000 in
theorem k4_begin_4 (l : Launch) (dC : Nat → ClassId) (dI : Nat → Nat → Nat) (kB kI kJ kZ kC kS : ClassId) (sz : Nat) (xa38 : Nat) (xa39 : Nat) (xa40 : Nat) (f1 : Nat → Int64) : Met l yX4_begin wsX4_begin rm_k4_begin_4 (va_Pc [.ref xa38, .int 4] (fun U => U.heap.size = sz ∧ va_P (dC, dI) vwCl [(xa38, .inr (4, [.ref xa39, .ref xa40, .int 0])), (xa39, .inl (kJ, 23, .inr (.inl f1)))] U.heap ∧ kE dC dI kB kI kJ kZ kC kS U ∧ va_D (fun _ => True) [(xa38, .inr (4, [.ref xa39, .ref xa40, .int 0])), (xa39, .inl (kJ, 23, .inr (.inl f1)))])) (va_Qv (fun (_ : Unit) => True) (fun _ t => ∃ (g1 : Nat → Int64), g1 0 = kv4 0 0 ∧ g1 1 = kv4 0 1 ∧ g1 2 = kv4 0 2 ∧ g1 3 = kv4 0 3 ∧ g1 4 = kv4 0 4 ∧ va_P (dC, dI) vwCl [(xa38, .inr (4, [.ref xa39, .ref xa40, .int 0])), (xa39, .inl (kJ, 23, .inr (.inl g1)))] t.heap ∧ va_D (va_A [(xa38, .inr (4, [.ref xa39, .ref xa40, .int 0])), (xa39, .inl (kJ, 23, .inr (.inl f1)))] sz) [(xa38, .inr (4, [.ref xa39, .ref xa40, .int 0])), (xa39, .inl (kJ, 23, .inr (.inl g1)))]) (va_A [(xa38, .inr (4, [.ref xa39, .ref xa40, .int 0])), (xa39, .inl (kJ, 23, .inr (.inl f1)))] sz)) 0 0 (va_A [(xa38, .inr (4, [.ref xa39, .ref xa40, .int 0])), (xa39, .inl (kJ, 23, .inr (.inl f1)))] sz) := by
  refine Met.ofW (cc := cX4_begin) (maxL := 3) (ret := none) (by decide) rfl ?_
  intro p e s m args0 below meth c s₁ B hml hv
  obtain ⟨hargs, hsz, hP, hE, hD0⟩ := hv
  have hx := B.exec
  have hb := B.bytes
  have hr := B.returns
  have hts := atoms_spec (ws := wsX4_begin) B.pre
  have hown : s.vm.findClass RX4 = some m.cls := findClass_of_methodNamed B.named
  have hlocks := B.notSynchronized
  have hK := hE.1
  have hin4 : ∀ w ∈ wsX40, w ∈ wsX4_begin := fun _ h9 => List.mem_cons_of_mem _ (List.mem_append_right _ h9)
  subst hsz
  have hD := hD0.self (sz := s.heap.size)
  generalize hAe : va_A [(xa38, .inr (4, [.ref xa39, .ref xa40, .int 0])), (xa39, .inl (kJ, 23, .inr (.inl f1)))] s.heap.size = A at hD ⊢
  have hA : ∀ q : Nat, s.heap.size ≤ q → A q := fun q h => by rw [← hAe]; exact Or.inr h
  have hS : va_S A s.heap s.heap [] := va_S.rf
  have hP : va_P (dC, dI) vwCl [(xa38, .inr (4, [.ref xa39, .ref xa40, .int 0])), (xa39, .inl (kJ, 23, .inr (.inl f1)))] s.heap := hP
  have hl := lv_entry ([.ref xa38, .int 4]) (n := 3) (Nat.le_of_ble_eq_true rfl)
  have hla : entryFrame m args0 3 = entryFrame m ([.ref xa38, .int 4] : List Value).toArray 3 := by rw [hargs]
  rw [hla, lg_entry_eq]
  generalize (lg_sl ([.ref xa38, .int 4]) ++ List.replicate (3 - (lg_sl ([.ref xa38, .int 4])).length) Slot.unset).toArray = ls at hl ⊢
  have hl : lv_has ls 3 [(0, .ref xa38), (1, .int 4)] := hl
  refine lv_aload_n hx hb dX4_begin_0 rfl (lv_at hl 0 rfl) ?_
  refine va_get (D := (dC, dI)) (ci := 4) (v := .ref xa39) (C := RX4) (T := TX4) (N := 3) hx hb hts hin4 hown hK hP 0 rfl rfl 0 (by decide) (hts (.fieldLink RX4 9 "PathProber$Odds" "met" "[J") (List.mem_of_getElem? (i := 1) (by decide +kernel))) (fun _ h9 => h9) rfl dX4_begin_1 ?_
  refine lv_iconst (v := 0) hx hb dX4_begin_4 (by decide) ?_
  refine lv_ldc2 hx hb hown (hts (.constantLong RX4 23 (1000000000000)) (List.mem_of_getElem? (i := 2) (by decide +kernel))) dX4_begin_5 ?_
  refine va_last hx hb hK hP hD hS 1 2 rfl rfl (vp_in_nI (n := 0) (by decide) (by decide)) dX4_begin_8 (fun H locs hP hD hS => ?_)
  have hP : va_P (dC, dI) vwCl [(xa38, .inr (4, [.ref xa39, .ref xa40, .int 0])), (xa39, .inl (kJ, 23, .inr (.inl (vp_updL f1 0 1000000000000))))] H := hP
  have hD : va_D A [(xa38, .inr (4, [.ref xa39, .ref xa40, .int 0])), (xa39, .inl (kJ, 23, .inr (.inl (vp_updL f1 0 1000000000000))))] := hD
  refine lv_iconst (v := 1) hx hb dX4_begin_9 (by decide) ?_
  refine lv_istore_n (lv' := [(2, .int 1), (0, .ref xa38), (1, .int 4)]) hx hb dX4_begin_10 rfl hl (by decide) rfl (fun ls hl => ?_)
  refine lv_iload_n hx hb dX4_begin_11 rfl (lv_at hl 0 rfl) ?_
  refine lv_iload_n hx hb dX4_begin_12 rfl (lv_at hl 2 rfl) ?_
  refine lv_icmp_gt (tgt := 29) hx hb dX4_begin_13 (by decide) (fun c9 => absurd c9 (by decide)) (fun _ => ?_)
  refine lv_aload_n hx hb dX4_begin_16 rfl (lv_at hl 1 rfl) ?_
  refine va_get (D := (dC, dI)) (ci := 4) (v := .ref xa39) (C := RX4) (T := TX4) (N := 3) hx hb hts hin4 hown hK hP 0 rfl rfl 0 (by decide) (hts (.fieldLink RX4 9 "PathProber$Odds" "met" "[J") (List.mem_of_getElem? (i := 1) (by decide +kernel))) (fun _ h9 => h9) rfl dX4_begin_17 ?_
  refine lv_iload_n hx hb dX4_begin_20 rfl (lv_at hl 0 rfl) ?_
  refine lv_lconst (v := 0) hx hb dX4_begin_21 (by decide) ?_
  refine va_last hx hb hK hP hD hS 1 2 rfl rfl (vp_in_nI (n := 1) (by decide) (by decide)) dX4_begin_22 (fun H locs hP hD hS => ?_)
  have hP : va_P (dC, dI) vwCl [(xa38, .inr (4, [.ref xa39, .ref xa40, .int 0])), (xa39, .inl (kJ, 23, .inr (.inl (vp_updL (vp_updL f1 0 1000000000000) 1 0))))] H := hP
  have hD : va_D A [(xa38, .inr (4, [.ref xa39, .ref xa40, .int 0])), (xa39, .inl (kJ, 23, .inr (.inl (vp_updL (vp_updL f1 0 1000000000000) 1 0))))] := hD
  refine lv_iinc (v := 2) (lv' := [(2, .int 2), (0, .ref xa38), (1, .int 4)]) hx hb dX4_begin_23 hl (k := 0) rfl (by decide) (by decide) rfl (fun ls hl => ?_)
  refine lv_goto (tgt := 11) hx hb dX4_begin_26 (by decide) ?_
  refine lv_iload_n hx hb dX4_begin_11 rfl (lv_at hl 0 rfl) ?_
  refine lv_iload_n hx hb dX4_begin_12 rfl (lv_at hl 2 rfl) ?_
  refine lv_icmp_gt (tgt := 29) hx hb dX4_begin_13 (by decide) (fun c9 => absurd c9 (by decide)) (fun _ => ?_)
  refine lv_aload_n hx hb dX4_begin_16 rfl (lv_at hl 1 rfl) ?_
  refine va_get (D := (dC, dI)) (ci := 4) (v := .ref xa39) (C := RX4) (T := TX4) (N := 3) hx hb hts hin4 hown hK hP 0 rfl rfl 0 (by decide) (hts (.fieldLink RX4 9 "PathProber$Odds" "met" "[J") (List.mem_of_getElem? (i := 1) (by decide +kernel))) (fun _ h9 => h9) rfl dX4_begin_17 ?_
  refine lv_iload_n hx hb dX4_begin_20 rfl (lv_at hl 0 rfl) ?_
  refine lv_lconst (v := 0) hx hb dX4_begin_21 (by decide) ?_
  refine va_last hx hb hK hP hD hS 1 2 rfl rfl (vp_in_nI (n := 2) (by decide) (by decide)) dX4_begin_22 (fun H locs hP hD hS => ?_)
  have hP : va_P (dC, dI) vwCl [(xa38, .inr (4, [.ref xa39, .ref xa40, .int 0])), (xa39, .inl (kJ, 23, .inr (.inl (vp_updL (vp_updL (vp_updL f1 0 1000000000000) 1 0) 2 0))))] H := hP
  have hD : va_D A [(xa38, .inr (4, [.ref xa39, .ref xa40, .int 0])), (xa39, .inl (kJ, 23, .inr (.inl (vp_updL (vp_updL (vp_updL f1 0 1000000000000) 1 0) 2 0))))] := hD
  refine lv_iinc (v := 3) (lv' := [(2, .int 3), (0, .ref xa38), (1, .int 4)]) hx hb dX4_begin_23 hl (k := 0) rfl (by decide) (by decide) rfl (fun ls hl => ?_)
  refine lv_goto (tgt := 11) hx hb dX4_begin_26 (by decide) ?_
  refine lv_iload_n hx hb dX4_begin_11 rfl (lv_at hl 0 rfl) ?_
  refine lv_iload_n hx hb dX4_begin_12 rfl (lv_at hl 2 rfl) ?_
  refine lv_icmp_gt (tgt := 29) hx hb dX4_begin_13 (by decide) (fun c9 => absurd c9 (by decide)) (fun _ => ?_)
  refine lv_aload_n hx hb dX4_begin_16 rfl (lv_at hl 1 rfl) ?_
  refine va_get (D := (dC, dI)) (ci := 4) (v := .ref xa39) (C := RX4) (T := TX4) (N := 3) hx hb hts hin4 hown hK hP 0 rfl rfl 0 (by decide) (hts (.fieldLink RX4 9 "PathProber$Odds" "met" "[J") (List.mem_of_getElem? (i := 1) (by decide +kernel))) (fun _ h9 => h9) rfl dX4_begin_17 ?_
  refine lv_iload_n hx hb dX4_begin_20 rfl (lv_at hl 0 rfl) ?_
  refine lv_lconst (v := 0) hx hb dX4_begin_21 (by decide) ?_
  refine va_last hx hb hK hP hD hS 1 2 rfl rfl (vp_in_nI (n := 3) (by decide) (by decide)) dX4_begin_22 (fun H locs hP hD hS => ?_)
  have hP : va_P (dC, dI) vwCl [(xa38, .inr (4, [.ref xa39, .ref xa40, .int 0])), (xa39, .inl (kJ, 23, .inr (.inl (vp_updL (vp_updL (vp_updL (vp_updL f1 0 1000000000000) 1 0) 2 0) 3 0))))] H := hP
  have hD : va_D A [(xa38, .inr (4, [.ref xa39, .ref xa40, .int 0])), (xa39, .inl (kJ, 23, .inr (.inl (vp_updL (vp_updL (vp_updL (vp_updL f1 0 1000000000000) 1 0) 2 0) 3 0))))] := hD
  refine lv_iinc (v := 4) (lv' := [(2, .int 4), (0, .ref xa38), (1, .int 4)]) hx hb dX4_begin_23 hl (k := 0) rfl (by decide) (by decide) rfl (fun ls hl => ?_)
  refine lv_goto (tgt := 11) hx hb dX4_begin_26 (by decide) ?_
  refine lv_iload_n hx hb dX4_begin_11 rfl (lv_at hl 0 rfl) ?_
  refine lv_iload_n hx hb dX4_begin_12 rfl (lv_at hl 2 rfl) ?_
  refine lv_icmp_gt (tgt := 29) hx hb dX4_begin_13 (by decide) (fun c9 => absurd c9 (by decide)) (fun _ => ?_)
  refine lv_aload_n hx hb dX4_begin_16 rfl (lv_at hl 1 rfl) ?_
  refine va_get (D := (dC, dI)) (ci := 4) (v := .ref xa39) (C := RX4) (T := TX4) (N := 3) hx hb hts hin4 hown hK hP 0 rfl rfl 0 (by decide) (hts (.fieldLink RX4 9 "PathProber$Odds" "met" "[J") (List.mem_of_getElem? (i := 1) (by decide +kernel))) (fun _ h9 => h9) rfl dX4_begin_17 ?_
  refine lv_iload_n hx hb dX4_begin_20 rfl (lv_at hl 0 rfl) ?_
  refine lv_lconst (v := 0) hx hb dX4_begin_21 (by decide) ?_
  refine va_last hx hb hK hP hD hS 1 2 rfl rfl (vp_in_nI (n := 4) (by decide) (by decide)) dX4_begin_22 (fun H locs hP hD hS => ?_)
  have hP : va_P (dC, dI) vwCl [(xa38, .inr (4, [.ref xa39, .ref xa40, .int 0])), (xa39, .inl (kJ, 23, .inr (.inl (vp_updL (vp_updL (vp_updL (vp_updL (vp_updL f1 0 1000000000000) 1 0) 2 0) 3 0) 4 0))))] H := hP
  have hD : va_D A [(xa38, .inr (4, [.ref xa39, .ref xa40, .int 0])), (xa39, .inl (kJ, 23, .inr (.inl (vp_updL (vp_updL (vp_updL (vp_updL (vp_updL f1 0 1000000000000) 1 0) 2 0) 3 0) 4 0))))] := hD
  refine lv_iinc (v := 5) (lv' := [(2, .int 5), (0, .ref xa38), (1, .int 4)]) hx hb dX4_begin_23 hl (k := 0) rfl (by decide) (by decide) rfl (fun ls hl => ?_)
  refine lv_goto (tgt := 11) hx hb dX4_begin_26 (by decide) ?_
  refine lv_iload_n hx hb dX4_begin_11 rfl (lv_at hl 0 rfl) ?_
  refine lv_iload_n hx hb dX4_begin_12 rfl (lv_at hl 2 rfl) ?_
  refine lv_icmp_gt (tgt := 29) hx hb dX4_begin_13 (by decide) (fun _ => ?_) (fun c9 => absurd (by decide) c9)
  have hP9 := hP.sub (ws' := [(xa38, .inr (4, [.ref xa39, .ref xa40, .int 0])), (xa39, .inl (kJ, 23, .inr (.inl (vp_updL (vp_updL (vp_updL (vp_updL (vp_updL f1 0 1000000000000) 1 0) 2 0) 3 0) 4 0))))]) [0, 1] rfl
  have hD9 := hD.sub (ws' := [(xa38, .inr (4, [.ref xa39, .ref xa40, .int 0])), (xa39, .inl (kJ, 23, .inr (.inl (vp_updL (vp_updL (vp_updL (vp_updL (vp_updL f1 0 1000000000000) 1 0) 2 0) 3 0) 4 0))))]) [0, 1] (by decide) rfl
  exact W.vret hx hb hr (fun t ht hW => ⟨⟨(), rfl, trivial, vp_updL (vp_updL (vp_updL (vp_updL (vp_updL f1 0 1000000000000) 1 0) 2 0) 3 0) 4 0, rfl, rfl, rfl, rfl, rfl, by rw [ht]; exact hP9, hD9⟩, hS.F ht⟩) hS.2.2 dX4_begin_29
def rm_k4_sendNext_4 : Room := { frames := 0, cells := 0, slots := 0, locals := 0 }
set_option maxHeartbeats 4000000 in
set_option maxRecDepth 100000 in
theorem k4_sendNext_4 (l : Launch) (dC : Nat → ClassId) (dI : Nat → Nat → Nat) (kB kI kJ kZ kC kS : ClassId) (sz : Nat) (xa38 : Nat) (xa39 : Nat) (xa40 : Nat) (f1 : Nat → Int64) : Met l yX4_sendNext wsX4_sendNext rm_k4_sendNext_4 (va_Pc [.ref xa38, .int 4] (fun U => U.heap.size = sz ∧ va_P (dC, dI) vwCl [(xa38, .inr (4, [.ref xa39, .ref xa40, .int 0])), (xa39, .inl (kJ, 23, .inr (.inl f1)))] U.heap ∧ kE dC dI kB kI kJ kZ kC kS U ∧ va_D (fun _ => True) [(xa38, .inr (4, [.ref xa39, .ref xa40, .int 0])), (xa39, .inl (kJ, 23, .inr (.inl f1)))])) (va_Qv (fun (_ : Unit) => True) (fun _ t => ∃ (g1 : Nat → Int64), g1 0 = f1 0 * 0 / 4 ∧ g1 1 = f1 1 * 1 / 4 + (f1 0 - f1 0 * 0 / 4) ∧ g1 2 = f1 2 * 2 / 4 + (f1 1 - f1 1 * 1 / 4) ∧ g1 3 = f1 3 * 3 / 4 + (f1 2 - f1 2 * 2 / 4) ∧ g1 4 = f1 4 + (f1 3 - f1 3 * 3 / 4) ∧ va_P (dC, dI) vwCl [(xa38, .inr (4, [.ref xa39, .ref xa40, .int 0])), (xa39, .inl (kJ, 23, .inr (.inl g1)))] t.heap ∧ va_D (va_A [(xa38, .inr (4, [.ref xa39, .ref xa40, .int 0])), (xa39, .inl (kJ, 23, .inr (.inl f1)))] sz) [(xa38, .inr (4, [.ref xa39, .ref xa40, .int 0])), (xa39, .inl (kJ, 23, .inr (.inl g1)))]) (va_A [(xa38, .inr (4, [.ref xa39, .ref xa40, .int 0])), (xa39, .inl (kJ, 23, .inr (.inl f1)))] sz)) 0 0 (va_A [(xa38, .inr (4, [.ref xa39, .ref xa40, .int 0])), (xa39, .inl (kJ, 23, .inr (.inl f1)))] sz) := by
  refine Met.ofW (cc := cX4_sendNext) (maxL := 5) (ret := none) (by decide) rfl ?_
  intro p e s m args0 below meth c s₁ B hml hv
  obtain ⟨hargs, hsz, hP, hE, hD0⟩ := hv
  have hx := B.exec
  have hb := B.bytes
  have hr := B.returns
  have hts := atoms_spec (ws := wsX4_sendNext) B.pre
  have hown : s.vm.findClass RX4 = some m.cls := findClass_of_methodNamed B.named
  have hlocks := B.notSynchronized
  have hK := hE.1
  have hin4 : ∀ w ∈ wsX40, w ∈ wsX4_sendNext := fun _ h9 => List.mem_cons_of_mem _ (List.mem_append_right _ h9)
  subst hsz
  have hD := hD0.self (sz := s.heap.size)
  generalize hAe : va_A [(xa38, .inr (4, [.ref xa39, .ref xa40, .int 0])), (xa39, .inl (kJ, 23, .inr (.inl f1)))] s.heap.size = A at hD ⊢
  have hA : ∀ q : Nat, s.heap.size ≤ q → A q := fun q h => by rw [← hAe]; exact Or.inr h
  have hS : va_S A s.heap s.heap [] := va_S.rf
  have hP : va_P (dC, dI) vwCl [(xa38, .inr (4, [.ref xa39, .ref xa40, .int 0])), (xa39, .inl (kJ, 23, .inr (.inl f1)))] s.heap := hP
  have hl := lv_entry ([.ref xa38, .int 4]) (n := 5) (Nat.le_of_ble_eq_true rfl)
  have hla : entryFrame m args0 5 = entryFrame m ([.ref xa38, .int 4] : List Value).toArray 5 := by rw [hargs]
  rw [hla, lg_entry_eq]
  generalize (lg_sl ([.ref xa38, .int 4]) ++ List.replicate (5 - (lg_sl ([.ref xa38, .int 4])).length) Slot.unset).toArray = ls at hl ⊢
  have hl : lv_has ls 5 [(0, .ref xa38), (1, .int 4)] := hl
  refine lv_iload_n hx hb dX4_sendNext_0 rfl (lv_at hl 1 rfl) ?_
  refine lv_iconst (v := 1) hx hb dX4_sendNext_1 (by decide) ?_
  refine lv_icmp_lt (tgt := 14) hx hb dX4_sendNext_2 (by decide) (fun c9 => absurd c9 (by decide)) (fun _ => ?_)
  refine lv_iload_n hx hb dX4_sendNext_5 rfl (lv_at hl 1 rfl) ?_
  refine lv_aload_n hx hb dX4_sendNext_6 rfl (lv_at hl 0 rfl) ?_
  refine va_get (D := (dC, dI)) (ci := 4) (v := .ref xa39) (C := RX4) (T := TX4) (N := 3) hx hb hts hin4 hown hK hP 0 rfl rfl 0 (by decide) (hts (.fieldLink RX4 9 "PathProber$Odds" "met" "[J") (List.mem_of_getElem? (i := 1) (by decide +kernel))) (fun _ h9 => h9) rfl dX4_sendNext_7 ?_
  refine va_alen (v := 23) hx hb hK hP 1 2 rfl rfl rfl dX4_sendNext_10 ?_
  refine lv_icmp_lt (tgt := 15) hx hb dX4_sendNext_11 (by decide) (fun _ => ?_) (fun c9 => absurd (by decide) c9)
  refine lv_iload_n hx hb dX4_sendNext_15 rfl (lv_at hl 1 rfl) ?_
  refine lv_iconst (v := 1) hx hb dX4_sendNext_16 (by decide) ?_
  refine lv_isub hx hb dX4_sendNext_17 ?_
  refine lv_topi (fun z1 e2 => ?_)
  obtain rfl : z1 = (3 : Int32) := e2.trans (by decide)
  refine lv_istore_n (lv' := [(2, .int 3), (0, .ref xa38), (1, .int 4)]) hx hb dX4_sendNext_18 rfl hl (by decide) rfl (fun ls hl => ?_)
  refine lv_iload_n hx hb dX4_sendNext_19 rfl (lv_at hl 0 rfl) ?_
  refine lv_if_lt (tgt := 68) hx hb dX4_sendNext_20 (by decide) (fun c9 => absurd c9 (by decide)) (fun _ => ?_)
  refine lv_aload_n hx hb dX4_sendNext_23 rfl (lv_at hl 1 rfl) ?_
  refine va_get (D := (dC, dI)) (ci := 4) (v := .ref xa39) (C := RX4) (T := TX4) (N := 3) hx hb hts hin4 hown hK hP 0 rfl rfl 0 (by decide) (hts (.fieldLink RX4 9 "PathProber$Odds" "met" "[J") (List.mem_of_getElem? (i := 1) (by decide +kernel))) (fun _ h9 => h9) rfl dX4_sendNext_24 ?_
  refine lv_iload_n hx hb dX4_sendNext_27 rfl (lv_at hl 0 rfl) ?_
  refine va_lald hx hb hK hP 1 2 rfl rfl (vp_in_nI (n := 3) (by decide) (by decide)) dX4_sendNext_28 ?_
  refine lv_topl (fun z3 e4 => ?_)
  obtain rfl : z3 = (f1 3 : Int64) := e4
  refine lv_iload_n hx hb dX4_sendNext_29 rfl (lv_at hl 0 rfl) ?_
  refine lv_i2l (v := 3) hx hb dX4_sendNext_30 (by decide) ?_
  refine lv_lmul hx hb dX4_sendNext_31 ?_
  refine lv_iload_n hx hb dX4_sendNext_32 rfl (lv_at hl 2 rfl) ?_
  refine lv_i2l (v := 4) hx hb dX4_sendNext_33 (by decide) ?_
  refine lv_ldiv hx hb dX4_sendNext_34 (by decide) ?_
  refine lv_lstore_n (lv' := [(3, .long (((f1 3) * 3) / 4)), (2, .int 3), (0, .ref xa38), (1, .int 4)]) hx hb dX4_sendNext_35 rfl hl (by decide) rfl (fun ls hl => ?_)
  refine lv_aload_n hx hb dX4_sendNext_36 rfl (lv_at hl 2 rfl) ?_
  refine va_get (D := (dC, dI)) (ci := 4) (v := .ref xa39) (C := RX4) (T := TX4) (N := 3) hx hb hts hin4 hown hK hP 0 rfl rfl 0 (by decide) (hts (.fieldLink RX4 9 "PathProber$Odds" "met" "[J") (List.mem_of_getElem? (i := 1) (by decide +kernel))) (fun _ h9 => h9) rfl dX4_sendNext_37 ?_
  refine lv_iload_n hx hb dX4_sendNext_40 rfl (lv_at hl 1 rfl) ?_
  refine lv_iconst (v := 1) hx hb dX4_sendNext_41 (by decide) ?_
  refine lv_iadd hx hb dX4_sendNext_42 ?_
  refine lv_topi (fun z5 e6 => ?_)
  obtain rfl : z5 = (4 : Int32) := e6.trans (by decide)
  refine lv_dup2_11 hx hb dX4_sendNext_43 rfl rfl ?_
  refine va_lald hx hb hK hP 1 2 rfl rfl (vp_in_nI (n := 4) (by decide) (by decide)) dX4_sendNext_44 ?_
  refine lv_topl (fun z7 e8 => ?_)
  obtain rfl : z7 = (f1 4 : Int64) := e8
  refine lv_aload_n hx hb dX4_sendNext_45 rfl (lv_at hl 2 rfl) ?_
  refine va_get (D := (dC, dI)) (ci := 4) (v := .ref xa39) (C := RX4) (T := TX4) (N := 3) hx hb hts hin4 hown hK hP 0 rfl rfl 0 (by decide) (hts (.fieldLink RX4 9 "PathProber$Odds" "met" "[J") (List.mem_of_getElem? (i := 1) (by decide +kernel))) (fun _ h9 => h9) rfl dX4_sendNext_46 ?_
  refine lv_iload_n hx hb dX4_sendNext_49 rfl (lv_at hl 1 rfl) ?_
  refine va_lald hx hb hK hP 1 2 rfl rfl (vp_in_nI (n := 3) (by decide) (by decide)) dX4_sendNext_50 ?_
  refine lv_topl (fun z9 e10 => ?_)
  obtain rfl : z9 = (f1 3 : Int64) := e10
  refine lv_lload_n hx hb dX4_sendNext_51 rfl (lv_at hl 0 rfl) ?_
  refine lv_lsub hx hb dX4_sendNext_52 ?_
  refine lv_ladd hx hb dX4_sendNext_53 ?_
  refine va_last hx hb hK hP hD hS 1 2 rfl rfl (vp_in_nI (n := 4) (by decide) (by decide)) dX4_sendNext_54 (fun H locs hP hD hS => ?_)
  have hP : va_P (dC, dI) vwCl [(xa38, .inr (4, [.ref xa39, .ref xa40, .int 0])), (xa39, .inl (kJ, 23, .inr (.inl (vp_updL f1 4 ((f1 4) + ((f1 3) - (((f1 3) * 3) / 4)))))))] H := hP
  have hD : va_D A [(xa38, .inr (4, [.ref xa39, .ref xa40, .int 0])), (xa39, .inl (kJ, 23, .inr (.inl (vp_updL f1 4 ((f1 4) + ((f1 3) - (((f1 3) * 3) / 4)))))))] := hD
  refine lv_aload_n hx hb dX4_sendNext_55 rfl (lv_at hl 2 rfl) ?_
  refine va_get (D := (dC, dI)) (ci := 4) (v := .ref xa39) (C := RX4) (T := TX4) (N := 3) hx hb hts hin4 hown hK hP 0 rfl rfl 0 (by decide) (hts (.fieldLink RX4 9 "PathProber$Odds" "met" "[J") (List.mem_of_getElem? (i := 1) (by decide +kernel))) (fun _ h9 => h9) rfl dX4_sendNext_56 ?_
  refine lv_iload_n hx hb dX4_sendNext_59 rfl (lv_at hl 1 rfl) ?_
  refine lv_lload_n hx hb dX4_sendNext_60 rfl (lv_at hl 0 rfl) ?_
  refine va_last hx hb hK hP hD hS 1 2 rfl rfl (vp_in_nI (n := 3) (by decide) (by decide)) dX4_sendNext_61 (fun H locs hP hD hS => ?_)
  have hP : va_P (dC, dI) vwCl [(xa38, .inr (4, [.ref xa39, .ref xa40, .int 0])), (xa39, .inl (kJ, 23, .inr (.inl (vp_updL (vp_updL f1 4 ((f1 4) + ((f1 3) - (((f1 3) * 3) / 4)))) 3 (((f1 3) * 3) / 4)))))] H := hP
  have hD : va_D A [(xa38, .inr (4, [.ref xa39, .ref xa40, .int 0])), (xa39, .inl (kJ, 23, .inr (.inl (vp_updL (vp_updL f1 4 ((f1 4) + ((f1 3) - (((f1 3) * 3) / 4)))) 3 (((f1 3) * 3) / 4)))))] := hD
  refine lv_iinc (v := 2) (lv' := [(2, .int 2), (3, .long (((f1 3) * 3) / 4)), (0, .ref xa38), (1, .int 4)]) hx hb dX4_sendNext_62 hl (k := 1) rfl (by decide) (by decide) rfl (fun ls hl => ?_)
  refine lv_goto (tgt := 19) hx hb dX4_sendNext_65 (by decide) ?_
  refine lv_iload_n hx hb dX4_sendNext_19 rfl (lv_at hl 0 rfl) ?_
  refine lv_if_lt (tgt := 68) hx hb dX4_sendNext_20 (by decide) (fun c9 => absurd c9 (by decide)) (fun _ => ?_)
  refine lv_aload_n hx hb dX4_sendNext_23 rfl (lv_at hl 2 rfl) ?_
  refine va_get (D := (dC, dI)) (ci := 4) (v := .ref xa39) (C := RX4) (T := TX4) (N := 3) hx hb hts hin4 hown hK hP 0 rfl rfl 0 (by decide) (hts (.fieldLink RX4 9 "PathProber$Odds" "met" "[J") (List.mem_of_getElem? (i := 1) (by decide +kernel))) (fun _ h9 => h9) rfl dX4_sendNext_24 ?_
  refine lv_iload_n hx hb dX4_sendNext_27 rfl (lv_at hl 0 rfl) ?_
  refine va_lald hx hb hK hP 1 2 rfl rfl (vp_in_nI (n := 2) (by decide) (by decide)) dX4_sendNext_28 ?_
  refine lv_topl (fun z11 e12 => ?_)
  obtain rfl : z11 = (f1 2 : Int64) := e12
  refine lv_iload_n hx hb dX4_sendNext_29 rfl (lv_at hl 0 rfl) ?_
  refine lv_i2l (v := 2) hx hb dX4_sendNext_30 (by decide) ?_
  refine lv_lmul hx hb dX4_sendNext_31 ?_
  refine lv_iload_n hx hb dX4_sendNext_32 rfl (lv_at hl 3 rfl) ?_
  refine lv_i2l (v := 4) hx hb dX4_sendNext_33 (by decide) ?_
  refine lv_ldiv hx hb dX4_sendNext_34 (by decide) ?_
  refine lv_lstore_n (lv' := [(3, .long (((f1 2) * 2) / 4)), (2, .int 2), (0, .ref xa38), (1, .int 4)]) hx hb dX4_sendNext_35 rfl hl (by decide) rfl (fun ls hl => ?_)
  refine lv_aload_n hx hb dX4_sendNext_36 rfl (lv_at hl 2 rfl) ?_
  refine va_get (D := (dC, dI)) (ci := 4) (v := .ref xa39) (C := RX4) (T := TX4) (N := 3) hx hb hts hin4 hown hK hP 0 rfl rfl 0 (by decide) (hts (.fieldLink RX4 9 "PathProber$Odds" "met" "[J") (List.mem_of_getElem? (i := 1) (by decide +kernel))) (fun _ h9 => h9) rfl dX4_sendNext_37 ?_
  refine lv_iload_n hx hb dX4_sendNext_40 rfl (lv_at hl 1 rfl) ?_
  refine lv_iconst (v := 1) hx hb dX4_sendNext_41 (by decide) ?_
  refine lv_iadd hx hb dX4_sendNext_42 ?_
  refine lv_topi (fun z13 e14 => ?_)
  obtain rfl : z13 = (3 : Int32) := e14.trans (by decide)
  refine lv_dup2_11 hx hb dX4_sendNext_43 rfl rfl ?_
  refine va_lald hx hb hK hP 1 2 rfl rfl (vp_in_nI (n := 3) (by decide) (by decide)) dX4_sendNext_44 ?_
  refine lv_topl (fun z15 e16 => ?_)
  obtain rfl : z15 = (((f1 3) * 3) / 4 : Int64) := e16
  refine lv_aload_n hx hb dX4_sendNext_45 rfl (lv_at hl 2 rfl) ?_
  refine va_get (D := (dC, dI)) (ci := 4) (v := .ref xa39) (C := RX4) (T := TX4) (N := 3) hx hb hts hin4 hown hK hP 0 rfl rfl 0 (by decide) (hts (.fieldLink RX4 9 "PathProber$Odds" "met" "[J") (List.mem_of_getElem? (i := 1) (by decide +kernel))) (fun _ h9 => h9) rfl dX4_sendNext_46 ?_
  refine lv_iload_n hx hb dX4_sendNext_49 rfl (lv_at hl 1 rfl) ?_
  refine va_lald hx hb hK hP 1 2 rfl rfl (vp_in_nI (n := 2) (by decide) (by decide)) dX4_sendNext_50 ?_
  refine lv_topl (fun z17 e18 => ?_)
  obtain rfl : z17 = (f1 2 : Int64) := e18
  refine lv_lload_n hx hb dX4_sendNext_51 rfl (lv_at hl 0 rfl) ?_
  refine lv_lsub hx hb dX4_sendNext_52 ?_
  refine lv_ladd hx hb dX4_sendNext_53 ?_
  refine va_last hx hb hK hP hD hS 1 2 rfl rfl (vp_in_nI (n := 3) (by decide) (by decide)) dX4_sendNext_54 (fun H locs hP hD hS => ?_)
  have hP : va_P (dC, dI) vwCl [(xa38, .inr (4, [.ref xa39, .ref xa40, .int 0])), (xa39, .inl (kJ, 23, .inr (.inl (vp_updL (vp_updL (vp_updL f1 4 ((f1 4) + ((f1 3) - (((f1 3) * 3) / 4)))) 3 (((f1 3) * 3) / 4)) 3 ((((f1 3) * 3) / 4) + ((f1 2) - (((f1 2) * 2) / 4)))))))] H := hP
  have hD : va_D A [(xa38, .inr (4, [.ref xa39, .ref xa40, .int 0])), (xa39, .inl (kJ, 23, .inr (.inl (vp_updL (vp_updL (vp_updL f1 4 ((f1 4) + ((f1 3) - (((f1 3) * 3) / 4)))) 3 (((f1 3) * 3) / 4)) 3 ((((f1 3) * 3) / 4) + ((f1 2) - (((f1 2) * 2) / 4)))))))] := hD
  refine lv_aload_n hx hb dX4_sendNext_55 rfl (lv_at hl 2 rfl) ?_
  refine va_get (D := (dC, dI)) (ci := 4) (v := .ref xa39) (C := RX4) (T := TX4) (N := 3) hx hb hts hin4 hown hK hP 0 rfl rfl 0 (by decide) (hts (.fieldLink RX4 9 "PathProber$Odds" "met" "[J") (List.mem_of_getElem? (i := 1) (by decide +kernel))) (fun _ h9 => h9) rfl dX4_sendNext_56 ?_
  refine lv_iload_n hx hb dX4_sendNext_59 rfl (lv_at hl 1 rfl) ?_
  refine lv_lload_n hx hb dX4_sendNext_60 rfl (lv_at hl 0 rfl) ?_
  refine va_last hx hb hK hP hD hS 1 2 rfl rfl (vp_in_nI (n := 2) (by decide) (by decide)) dX4_sendNext_61 (fun H locs hP hD hS => ?_)
  have hP : va_P (dC, dI) vwCl [(xa38, .inr (4, [.ref xa39, .ref xa40, .int 0])), (xa39, .inl (kJ, 23, .inr (.inl (vp_updL (vp_updL (vp_updL (vp_updL f1 4 ((f1 4) + ((f1 3) - (((f1 3) * 3) / 4)))) 3 (((f1 3) * 3) / 4)) 3 ((((f1 3) * 3) / 4) + ((f1 2) - (((f1 2) * 2) / 4)))) 2 (((f1 2) * 2) / 4)))))] H := hP
  have hD : va_D A [(xa38, .inr (4, [.ref xa39, .ref xa40, .int 0])), (xa39, .inl (kJ, 23, .inr (.inl (vp_updL (vp_updL (vp_updL (vp_updL f1 4 ((f1 4) + ((f1 3) - (((f1 3) * 3) / 4)))) 3 (((f1 3) * 3) / 4)) 3 ((((f1 3) * 3) / 4) + ((f1 2) - (((f1 2) * 2) / 4)))) 2 (((f1 2) * 2) / 4)))))] := hD
  refine lv_iinc (v := 1) (lv' := [(2, .int 1), (3, .long (((f1 2) * 2) / 4)), (0, .ref xa38), (1, .int 4)]) hx hb dX4_sendNext_62 hl (k := 1) rfl (by decide) (by decide) rfl (fun ls hl => ?_)
  refine lv_goto (tgt := 19) hx hb dX4_sendNext_65 (by decide) ?_
  refine lv_iload_n hx hb dX4_sendNext_19 rfl (lv_at hl 0 rfl) ?_
  refine lv_if_lt (tgt := 68) hx hb dX4_sendNext_20 (by decide) (fun c9 => absurd c9 (by decide)) (fun _ => ?_)
  refine lv_aload_n hx hb dX4_sendNext_23 rfl (lv_at hl 2 rfl) ?_
  refine va_get (D := (dC, dI)) (ci := 4) (v := .ref xa39) (C := RX4) (T := TX4) (N := 3) hx hb hts hin4 hown hK hP 0 rfl rfl 0 (by decide) (hts (.fieldLink RX4 9 "PathProber$Odds" "met" "[J") (List.mem_of_getElem? (i := 1) (by decide +kernel))) (fun _ h9 => h9) rfl dX4_sendNext_24 ?_
  refine lv_iload_n hx hb dX4_sendNext_27 rfl (lv_at hl 0 rfl) ?_
  refine va_lald hx hb hK hP 1 2 rfl rfl (vp_in_nI (n := 1) (by decide) (by decide)) dX4_sendNext_28 ?_
  refine lv_topl (fun z19 e20 => ?_)
  obtain rfl : z19 = (f1 1 : Int64) := e20
  refine lv_iload_n hx hb dX4_sendNext_29 rfl (lv_at hl 0 rfl) ?_
  refine lv_i2l (v := 1) hx hb dX4_sendNext_30 (by decide) ?_
  refine lv_lmul hx hb dX4_sendNext_31 ?_
  refine lv_iload_n hx hb dX4_sendNext_32 rfl (lv_at hl 3 rfl) ?_
  refine lv_i2l (v := 4) hx hb dX4_sendNext_33 (by decide) ?_
  refine lv_ldiv hx hb dX4_sendNext_34 (by decide) ?_
  refine lv_lstore_n (lv' := [(3, .long (((f1 1) * 1) / 4)), (2, .int 1), (0, .ref xa38), (1, .int 4)]) hx hb dX4_sendNext_35 rfl hl (by decide) rfl (fun ls hl => ?_)
  refine lv_aload_n hx hb dX4_sendNext_36 rfl (lv_at hl 2 rfl) ?_
  refine va_get (D := (dC, dI)) (ci := 4) (v := .ref xa39) (C := RX4) (T := TX4) (N := 3) hx hb hts hin4 hown hK hP 0 rfl rfl 0 (by decide) (hts (.fieldLink RX4 9 "PathProber$Odds" "met" "[J") (List.mem_of_getElem? (i := 1) (by decide +kernel))) (fun _ h9 => h9) rfl dX4_sendNext_37 ?_
  refine lv_iload_n hx hb dX4_sendNext_40 rfl (lv_at hl 1 rfl) ?_
  refine lv_iconst (v := 1) hx hb dX4_sendNext_41 (by decide) ?_
  refine lv_iadd hx hb dX4_sendNext_42 ?_
  refine lv_topi (fun z21 e22 => ?_)
  obtain rfl : z21 = (2 : Int32) := e22.trans (by decide)
  refine lv_dup2_11 hx hb dX4_sendNext_43 rfl rfl ?_
  refine va_lald hx hb hK hP 1 2 rfl rfl (vp_in_nI (n := 2) (by decide) (by decide)) dX4_sendNext_44 ?_
  refine lv_topl (fun z23 e24 => ?_)
  obtain rfl : z23 = (((f1 2) * 2) / 4 : Int64) := e24
  refine lv_aload_n hx hb dX4_sendNext_45 rfl (lv_at hl 2 rfl) ?_
  refine va_get (D := (dC, dI)) (ci := 4) (v := .ref xa39) (C := RX4) (T := TX4) (N := 3) hx hb hts hin4 hown hK hP 0 rfl rfl 0 (by decide) (hts (.fieldLink RX4 9 "PathProber$Odds" "met" "[J") (List.mem_of_getElem? (i := 1) (by decide +kernel))) (fun _ h9 => h9) rfl dX4_sendNext_46 ?_
  refine lv_iload_n hx hb dX4_sendNext_49 rfl (lv_at hl 1 rfl) ?_
  refine va_lald hx hb hK hP 1 2 rfl rfl (vp_in_nI (n := 1) (by decide) (by decide)) dX4_sendNext_50 ?_
  refine lv_topl (fun z25 e26 => ?_)
  obtain rfl : z25 = (f1 1 : Int64) := e26
  refine lv_lload_n hx hb dX4_sendNext_51 rfl (lv_at hl 0 rfl) ?_
  refine lv_lsub hx hb dX4_sendNext_52 ?_
  refine lv_ladd hx hb dX4_sendNext_53 ?_
  refine va_last hx hb hK hP hD hS 1 2 rfl rfl (vp_in_nI (n := 2) (by decide) (by decide)) dX4_sendNext_54 (fun H locs hP hD hS => ?_)
  have hP : va_P (dC, dI) vwCl [(xa38, .inr (4, [.ref xa39, .ref xa40, .int 0])), (xa39, .inl (kJ, 23, .inr (.inl (vp_updL (vp_updL (vp_updL (vp_updL (vp_updL f1 4 ((f1 4) + ((f1 3) - (((f1 3) * 3) / 4)))) 3 (((f1 3) * 3) / 4)) 3 ((((f1 3) * 3) / 4) + ((f1 2) - (((f1 2) * 2) / 4)))) 2 (((f1 2) * 2) / 4)) 2 ((((f1 2) * 2) / 4) + ((f1 1) - (((f1 1) * 1) / 4)))))))] H := hP
  have hD : va_D A [(xa38, .inr (4, [.ref xa39, .ref xa40, .int 0])), (xa39, .inl (kJ, 23, .inr (.inl (vp_updL (vp_updL (vp_updL (vp_updL (vp_updL f1 4 ((f1 4) + ((f1 3) - (((f1 3) * 3) / 4)))) 3 (((f1 3) * 3) / 4)) 3 ((((f1 3) * 3) / 4) + ((f1 2) - (((f1 2) * 2) / 4)))) 2 (((f1 2) * 2) / 4)) 2 ((((f1 2) * 2) / 4) + ((f1 1) - (((f1 1) * 1) / 4)))))))] := hD
  refine lv_aload_n hx hb dX4_sendNext_55 rfl (lv_at hl 2 rfl) ?_
  refine va_get (D := (dC, dI)) (ci := 4) (v := .ref xa39) (C := RX4) (T := TX4) (N := 3) hx hb hts hin4 hown hK hP 0 rfl rfl 0 (by decide) (hts (.fieldLink RX4 9 "PathProber$Odds" "met" "[J") (List.mem_of_getElem? (i := 1) (by decide +kernel))) (fun _ h9 => h9) rfl dX4_sendNext_56 ?_
  refine lv_iload_n hx hb dX4_sendNext_59 rfl (lv_at hl 1 rfl) ?_
  refine lv_lload_n hx hb dX4_sendNext_60 rfl (lv_at hl 0 rfl) ?_
  refine va_last hx hb hK hP hD hS 1 2 rfl rfl (vp_in_nI (n := 1) (by decide) (by decide)) dX4_sendNext_61 (fun H locs hP hD hS => ?_)
  have hP : va_P (dC, dI) vwCl [(xa38, .inr (4, [.ref xa39, .ref xa40, .int 0])), (xa39, .inl (kJ, 23, .inr (.inl (vp_updL (vp_updL (vp_updL (vp_updL (vp_updL (vp_updL f1 4 ((f1 4) + ((f1 3) - (((f1 3) * 3) / 4)))) 3 (((f1 3) * 3) / 4)) 3 ((((f1 3) * 3) / 4) + ((f1 2) - (((f1 2) * 2) / 4)))) 2 (((f1 2) * 2) / 4)) 2 ((((f1 2) * 2) / 4) + ((f1 1) - (((f1 1) * 1) / 4)))) 1 (((f1 1) * 1) / 4)))))] H := hP
  have hD : va_D A [(xa38, .inr (4, [.ref xa39, .ref xa40, .int 0])), (xa39, .inl (kJ, 23, .inr (.inl (vp_updL (vp_updL (vp_updL (vp_updL (vp_updL (vp_updL f1 4 ((f1 4) + ((f1 3) - (((f1 3) * 3) / 4)))) 3 (((f1 3) * 3) / 4)) 3 ((((f1 3) * 3) / 4) + ((f1 2) - (((f1 2) * 2) / 4)))) 2 (((f1 2) * 2) / 4)) 2 ((((f1 2) * 2) / 4) + ((f1 1) - (((f1 1) * 1) / 4)))) 1 (((f1 1) * 1) / 4)))))] := hD
  refine lv_iinc (v := 0) (lv' := [(2, .int 0), (3, .long (((f1 1) * 1) / 4)), (0, .ref xa38), (1, .int 4)]) hx hb dX4_sendNext_62 hl (k := 1) rfl (by decide) (by decide) rfl (fun ls hl => ?_)
  refine lv_goto (tgt := 19) hx hb dX4_sendNext_65 (by decide) ?_
  refine lv_iload_n hx hb dX4_sendNext_19 rfl (lv_at hl 0 rfl) ?_
  refine lv_if_lt (tgt := 68) hx hb dX4_sendNext_20 (by decide) (fun c9 => absurd c9 (by decide)) (fun _ => ?_)
  refine lv_aload_n hx hb dX4_sendNext_23 rfl (lv_at hl 2 rfl) ?_
  refine va_get (D := (dC, dI)) (ci := 4) (v := .ref xa39) (C := RX4) (T := TX4) (N := 3) hx hb hts hin4 hown hK hP 0 rfl rfl 0 (by decide) (hts (.fieldLink RX4 9 "PathProber$Odds" "met" "[J") (List.mem_of_getElem? (i := 1) (by decide +kernel))) (fun _ h9 => h9) rfl dX4_sendNext_24 ?_
  refine lv_iload_n hx hb dX4_sendNext_27 rfl (lv_at hl 0 rfl) ?_
  refine va_lald hx hb hK hP 1 2 rfl rfl (vp_in_nI (n := 0) (by decide) (by decide)) dX4_sendNext_28 ?_
  refine lv_topl (fun z27 e28 => ?_)
  obtain rfl : z27 = (f1 0 : Int64) := e28
  refine lv_iload_n hx hb dX4_sendNext_29 rfl (lv_at hl 0 rfl) ?_
  refine lv_i2l (v := 0) hx hb dX4_sendNext_30 (by decide) ?_
  refine lv_lmul hx hb dX4_sendNext_31 ?_
  refine lv_iload_n hx hb dX4_sendNext_32 rfl (lv_at hl 3 rfl) ?_
  refine lv_i2l (v := 4) hx hb dX4_sendNext_33 (by decide) ?_
  refine lv_ldiv hx hb dX4_sendNext_34 (by decide) ?_
  refine lv_lstore_n (lv' := [(3, .long (((f1 0) * 0) / 4)), (2, .int 0), (0, .ref xa38), (1, .int 4)]) hx hb dX4_sendNext_35 rfl hl (by decide) rfl (fun ls hl => ?_)
  refine lv_aload_n hx hb dX4_sendNext_36 rfl (lv_at hl 2 rfl) ?_
  refine va_get (D := (dC, dI)) (ci := 4) (v := .ref xa39) (C := RX4) (T := TX4) (N := 3) hx hb hts hin4 hown hK hP 0 rfl rfl 0 (by decide) (hts (.fieldLink RX4 9 "PathProber$Odds" "met" "[J") (List.mem_of_getElem? (i := 1) (by decide +kernel))) (fun _ h9 => h9) rfl dX4_sendNext_37 ?_
  refine lv_iload_n hx hb dX4_sendNext_40 rfl (lv_at hl 1 rfl) ?_
  refine lv_iconst (v := 1) hx hb dX4_sendNext_41 (by decide) ?_
  refine lv_iadd hx hb dX4_sendNext_42 ?_
  refine lv_topi (fun z29 e30 => ?_)
  obtain rfl : z29 = (1 : Int32) := e30.trans (by decide)
  refine lv_dup2_11 hx hb dX4_sendNext_43 rfl rfl ?_
  refine va_lald hx hb hK hP 1 2 rfl rfl (vp_in_nI (n := 1) (by decide) (by decide)) dX4_sendNext_44 ?_
  refine lv_topl (fun z31 e32 => ?_)
  obtain rfl : z31 = (((f1 1) * 1) / 4 : Int64) := e32
  refine lv_aload_n hx hb dX4_sendNext_45 rfl (lv_at hl 2 rfl) ?_
  refine va_get (D := (dC, dI)) (ci := 4) (v := .ref xa39) (C := RX4) (T := TX4) (N := 3) hx hb hts hin4 hown hK hP 0 rfl rfl 0 (by decide) (hts (.fieldLink RX4 9 "PathProber$Odds" "met" "[J") (List.mem_of_getElem? (i := 1) (by decide +kernel))) (fun _ h9 => h9) rfl dX4_sendNext_46 ?_
  refine lv_iload_n hx hb dX4_sendNext_49 rfl (lv_at hl 1 rfl) ?_
  refine va_lald hx hb hK hP 1 2 rfl rfl (vp_in_nI (n := 0) (by decide) (by decide)) dX4_sendNext_50 ?_
  refine lv_topl (fun z33 e34 => ?_)
  obtain rfl : z33 = (f1 0 : Int64) := e34
  refine lv_lload_n hx hb dX4_sendNext_51 rfl (lv_at hl 0 rfl) ?_
  refine lv_lsub hx hb dX4_sendNext_52 ?_
  refine lv_ladd hx hb dX4_sendNext_53 ?_
  refine va_last hx hb hK hP hD hS 1 2 rfl rfl (vp_in_nI (n := 1) (by decide) (by decide)) dX4_sendNext_54 (fun H locs hP hD hS => ?_)
  have hP : va_P (dC, dI) vwCl [(xa38, .inr (4, [.ref xa39, .ref xa40, .int 0])), (xa39, .inl (kJ, 23, .inr (.inl (vp_updL (vp_updL (vp_updL (vp_updL (vp_updL (vp_updL (vp_updL f1 4 ((f1 4) + ((f1 3) - (((f1 3) * 3) / 4)))) 3 (((f1 3) * 3) / 4)) 3 ((((f1 3) * 3) / 4) + ((f1 2) - (((f1 2) * 2) / 4)))) 2 (((f1 2) * 2) / 4)) 2 ((((f1 2) * 2) / 4) + ((f1 1) - (((f1 1) * 1) / 4)))) 1 (((f1 1) * 1) / 4)) 1 ((((f1 1) * 1) / 4) + ((f1 0) - (((f1 0) * 0) / 4)))))))] H := hP
  have hD : va_D A [(xa38, .inr (4, [.ref xa39, .ref xa40, .int 0])), (xa39, .inl (kJ, 23, .inr (.inl (vp_updL (vp_updL (vp_updL (vp_updL (vp_updL (vp_updL (vp_updL f1 4 ((f1 4) + ((f1 3) - (((f1 3) * 3) / 4)))) 3 (((f1 3) * 3) / 4)) 3 ((((f1 3) * 3) / 4) + ((f1 2) - (((f1 2) * 2) / 4)))) 2 (((f1 2) * 2) / 4)) 2 ((((f1 2) * 2) / 4) + ((f1 1) - (((f1 1) * 1) / 4)))) 1 (((f1 1) * 1) / 4)) 1 ((((f1 1) * 1) / 4) + ((f1 0) - (((f1 0) * 0) / 4)))))))] := hD
  refine lv_aload_n hx hb dX4_sendNext_55 rfl (lv_at hl 2 rfl) ?_
  refine va_get (D := (dC, dI)) (ci := 4) (v := .ref xa39) (C := RX4) (T := TX4) (N := 3) hx hb hts hin4 hown hK hP 0 rfl rfl 0 (by decide) (hts (.fieldLink RX4 9 "PathProber$Odds" "met" "[J") (List.mem_of_getElem? (i := 1) (by decide +kernel))) (fun _ h9 => h9) rfl dX4_sendNext_56 ?_
  refine lv_iload_n hx hb dX4_sendNext_59 rfl (lv_at hl 1 rfl) ?_
  refine lv_lload_n hx hb dX4_sendNext_60 rfl (lv_at hl 0 rfl) ?_
  refine va_last hx hb hK hP hD hS 1 2 rfl rfl (vp_in_nI (n := 0) (by decide) (by decide)) dX4_sendNext_61 (fun H locs hP hD hS => ?_)
  have hP : va_P (dC, dI) vwCl [(xa38, .inr (4, [.ref xa39, .ref xa40, .int 0])), (xa39, .inl (kJ, 23, .inr (.inl (vp_updL (vp_updL (vp_updL (vp_updL (vp_updL (vp_updL (vp_updL (vp_updL f1 4 ((f1 4) + ((f1 3) - (((f1 3) * 3) / 4)))) 3 (((f1 3) * 3) / 4)) 3 ((((f1 3) * 3) / 4) + ((f1 2) - (((f1 2) * 2) / 4)))) 2 (((f1 2) * 2) / 4)) 2 ((((f1 2) * 2) / 4) + ((f1 1) - (((f1 1) * 1) / 4)))) 1 (((f1 1) * 1) / 4)) 1 ((((f1 1) * 1) / 4) + ((f1 0) - (((f1 0) * 0) / 4)))) 0 (((f1 0) * 0) / 4)))))] H := hP
  have hD : va_D A [(xa38, .inr (4, [.ref xa39, .ref xa40, .int 0])), (xa39, .inl (kJ, 23, .inr (.inl (vp_updL (vp_updL (vp_updL (vp_updL (vp_updL (vp_updL (vp_updL (vp_updL f1 4 ((f1 4) + ((f1 3) - (((f1 3) * 3) / 4)))) 3 (((f1 3) * 3) / 4)) 3 ((((f1 3) * 3) / 4) + ((f1 2) - (((f1 2) * 2) / 4)))) 2 (((f1 2) * 2) / 4)) 2 ((((f1 2) * 2) / 4) + ((f1 1) - (((f1 1) * 1) / 4)))) 1 (((f1 1) * 1) / 4)) 1 ((((f1 1) * 1) / 4) + ((f1 0) - (((f1 0) * 0) / 4)))) 0 (((f1 0) * 0) / 4)))))] := hD
  refine lv_iinc (v := (-1)) (lv' := [(2, .int (-1)), (3, .long (((f1 0) * 0) / 4)), (0, .ref xa38), (1, .int 4)]) hx hb dX4_sendNext_62 hl (k := 1) rfl (by decide) (by decide) rfl (fun ls hl => ?_)
  refine lv_goto (tgt := 19) hx hb dX4_sendNext_65 (by decide) ?_
  refine lv_iload_n hx hb dX4_sendNext_19 rfl (lv_at hl 0 rfl) ?_
  refine lv_if_lt (tgt := 68) hx hb dX4_sendNext_20 (by decide) (fun _ => ?_) (fun c9 => absurd (by decide) c9)
  have hP9 := hP.sub (ws' := [(xa38, .inr (4, [.ref xa39, .ref xa40, .int 0])), (xa39, .inl (kJ, 23, .inr (.inl (vp_updL (vp_updL (vp_updL (vp_updL (vp_updL (vp_updL (vp_updL (vp_updL f1 4 ((f1 4) + ((f1 3) - (((f1 3) * 3) / 4)))) 3 (((f1 3) * 3) / 4)) 3 ((((f1 3) * 3) / 4) + ((f1 2) - (((f1 2) * 2) / 4)))) 2 (((f1 2) * 2) / 4)) 2 ((((f1 2) * 2) / 4) + ((f1 1) - (((f1 1) * 1) / 4)))) 1 (((f1 1) * 1) / 4)) 1 ((((f1 1) * 1) / 4) + ((f1 0) - (((f1 0) * 0) / 4)))) 0 (((f1 0) * 0) / 4)))))]) [0, 1] rfl
  have hD9 := hD.sub (ws' := [(xa38, .inr (4, [.ref xa39, .ref xa40, .int 0])), (xa39, .inl (kJ, 23, .inr (.inl (vp_updL (vp_updL (vp_updL (vp_updL (vp_updL (vp_updL (vp_updL (vp_updL f1 4 ((f1 4) + ((f1 3) - (((f1 3) * 3) / 4)))) 3 (((f1 3) * 3) / 4)) 3 ((((f1 3) * 3) / 4) + ((f1 2) - (((f1 2) * 2) / 4)))) 2 (((f1 2) * 2) / 4)) 2 ((((f1 2) * 2) / 4) + ((f1 1) - (((f1 1) * 1) / 4)))) 1 (((f1 1) * 1) / 4)) 1 ((((f1 1) * 1) / 4) + ((f1 0) - (((f1 0) * 0) / 4)))) 0 (((f1 0) * 0) / 4)))))]) [0, 1] (by decide) rfl
  exact W.vret hx hb hr (fun t ht hW => ⟨⟨(), rfl, trivial, vp_updL (vp_updL (vp_updL (vp_updL (vp_updL (vp_updL (vp_updL (vp_updL f1 4 ((f1 4) + ((f1 3) - (((f1 3) * 3) / 4)))) 3 (((f1 3) * 3) / 4)) 3 ((((f1 3) * 3) / 4) + ((f1 2) - (((f1 2) * 2) / 4)))) 2 (((f1 2) * 2) / 4)) 2 ((((f1 2) * 2) / 4) + ((f1 1) - (((f1 1) * 1) / 4)))) 1 (((f1 1) * 1) / 4)) 1 ((((f1 1) * 1) / 4) + ((f1 0) - (((f1 0) * 0) / 4)))) 0 (((f1 0) * 0) / 4), rfl, rfl, rfl, rfl, rfl, by rw [ht]; exact hP9, hD9⟩, hS.F ht⟩) hS.2.2 dX4_sendNext_68
def rm_k4_begin_5 : Room := { frames := 0, cells := 0, slots := 0, locals := 0 }
set_option maxHeartbeats 4000000 in
set_option maxRecDepth 100000 in
theorem k4_begin_5 (l : Launch) (dC : Nat → ClassId) (dI : Nat → Nat → Nat) (kB kI kJ kZ kC kS : ClassId) (sz : Nat) (xa38 : Nat) (xa39 : Nat) (xa40 : Nat) (f1 : Nat → Int64) : Met l yX4_begin wsX4_begin rm_k4_begin_5 (va_Pc [.ref xa38, .int 5] (fun U => U.heap.size = sz ∧ va_P (dC, dI) vwCl [(xa38, .inr (4, [.ref xa39, .ref xa40, .int 0])), (xa39, .inl (kJ, 23, .inr (.inl f1)))] U.heap ∧ kE dC dI kB kI kJ kZ kC kS U ∧ va_D (fun _ => True) [(xa38, .inr (4, [.ref xa39, .ref xa40, .int 0])), (xa39, .inl (kJ, 23, .inr (.inl f1)))])) (va_Qv (fun (_ : Unit) => True) (fun _ t => ∃ (g1 : Nat → Int64), g1 0 = kv5 0 0 ∧ g1 1 = kv5 0 1 ∧ g1 2 = kv5 0 2 ∧ g1 3 = kv5 0 3 ∧ g1 4 = kv5 0 4 ∧ g1 5 = kv5 0 5 ∧ va_P (dC, dI) vwCl [(xa38, .inr (4, [.ref xa39, .ref xa40, .int 0])), (xa39, .inl (kJ, 23, .inr (.inl g1)))] t.heap ∧ va_D (va_A [(xa38, .inr (4, [.ref xa39, .ref xa40, .int 0])), (xa39, .inl (kJ, 23, .inr (.inl f1)))] sz) [(xa38, .inr (4, [.ref xa39, .ref xa40, .int 0])), (xa39, .inl (kJ, 23, .inr (.inl g1)))]) (va_A [(xa38, .inr (4, [.ref xa39, .ref xa40, .int 0])), (xa39, .inl (kJ, 23, .inr (.inl f1)))] sz)) 0 0 (va_A [(xa38, .inr (4, [.ref xa39, .ref xa40, .int 0])), (xa39, .inl (kJ, 23, .inr (.inl f1)))] sz) := by
  refine Met.ofW (cc := cX4_begin) (maxL := 3) (ret := none) (by decide) rfl ?_
  intro p e s m args0 below meth c s₁ B hml hv
  obtain ⟨hargs, hsz, hP, hE, hD0⟩ := hv
  have hx := B.exec
  have hb := B.bytes
  have hr := B.returns
  have hts := atoms_spec (ws := wsX4_begin) B.pre
  have hown : s.vm.findClass RX4 = some m.cls := findClass_of_methodNamed B.named
  have hlocks := B.notSynchronized
  have hK := hE.1
  have hin4 : ∀ w ∈ wsX40, w ∈ wsX4_begin := fun _ h9 => List.mem_cons_of_mem _ (List.mem_append_right _ h9)
  subst hsz
  have hD := hD0.self (sz := s.heap.size)
  generalize hAe : va_A [(xa38, .inr (4, [.ref xa39, .ref xa40, .int 0])), (xa39, .inl (kJ, 23, .inr (.inl f1)))] s.heap.size = A at hD ⊢
  have hA : ∀ q : Nat, s.heap.size ≤ q → A q := fun q h => by rw [← hAe]; exact Or.inr h
  have hS : va_S A s.heap s.heap [] := va_S.rf
  have hP : va_P (dC, dI) vwCl [(xa38, .inr (4, [.ref xa39, .ref xa40, .int 0])), (xa39, .inl (kJ, 23, .inr (.inl f1)))] s.heap := hP
  have hl := lv_entry ([.ref xa38, .int 5]) (n := 3) (Nat.le_of_ble_eq_true rfl)
  have hla : entryFrame m args0 3 = entryFrame m ([.ref xa38, .int 5] : List Value).toArray 3 := by rw [hargs]
  rw [hla, lg_entry_eq]
  generalize (lg_sl ([.ref xa38, .int 5]) ++ List.replicate (3 - (lg_sl ([.ref xa38, .int 5])).length) Slot.unset).toArray = ls at hl ⊢
  have hl : lv_has ls 3 [(0, .ref xa38), (1, .int 5)] := hl
  refine lv_aload_n hx hb dX4_begin_0 rfl (lv_at hl 0 rfl) ?_
  refine va_get (D := (dC, dI)) (ci := 4) (v := .ref xa39) (C := RX4) (T := TX4) (N := 3) hx hb hts hin4 hown hK hP 0 rfl rfl 0 (by decide) (hts (.fieldLink RX4 9 "PathProber$Odds" "met" "[J") (List.mem_of_getElem? (i := 1) (by decide +kernel))) (fun _ h9 => h9) rfl dX4_begin_1 ?_
  refine lv_iconst (v := 0) hx hb dX4_begin_4 (by decide) ?_
  refine lv_ldc2 hx hb hown (hts (.constantLong RX4 23 (1000000000000)) (List.mem_of_getElem? (i := 2) (by decide +kernel))) dX4_begin_5 ?_
  refine va_last hx hb hK hP hD hS 1 2 rfl rfl (vp_in_nI (n := 0) (by decide) (by decide)) dX4_begin_8 (fun H locs hP hD hS => ?_)
  have hP : va_P (dC, dI) vwCl [(xa38, .inr (4, [.ref xa39, .ref xa40, .int 0])), (xa39, .inl (kJ, 23, .inr (.inl (vp_updL f1 0 1000000000000))))] H := hP
  have hD : va_D A [(xa38, .inr (4, [.ref xa39, .ref xa40, .int 0])), (xa39, .inl (kJ, 23, .inr (.inl (vp_updL f1 0 1000000000000))))] := hD
  refine lv_iconst (v := 1) hx hb dX4_begin_9 (by decide) ?_
  refine lv_istore_n (lv' := [(2, .int 1), (0, .ref xa38), (1, .int 5)]) hx hb dX4_begin_10 rfl hl (by decide) rfl (fun ls hl => ?_)
  refine lv_iload_n hx hb dX4_begin_11 rfl (lv_at hl 0 rfl) ?_
  refine lv_iload_n hx hb dX4_begin_12 rfl (lv_at hl 2 rfl) ?_
  refine lv_icmp_gt (tgt := 29) hx hb dX4_begin_13 (by decide) (fun c9 => absurd c9 (by decide)) (fun _ => ?_)
  refine lv_aload_n hx hb dX4_begin_16 rfl (lv_at hl 1 rfl) ?_
  refine va_get (D := (dC, dI)) (ci := 4) (v := .ref xa39) (C := RX4) (T := TX4) (N := 3) hx hb hts hin4 hown hK hP 0 rfl rfl 0 (by decide) (hts (.fieldLink RX4 9 "PathProber$Odds" "met" "[J") (List.mem_of_getElem? (i := 1) (by decide +kernel))) (fun _ h9 => h9) rfl dX4_begin_17 ?_
  refine lv_iload_n hx hb dX4_begin_20 rfl (lv_at hl 0 rfl) ?_
  refine lv_lconst (v := 0) hx hb dX4_begin_21 (by decide) ?_
  refine va_last hx hb hK hP hD hS 1 2 rfl rfl (vp_in_nI (n := 1) (by decide) (by decide)) dX4_begin_22 (fun H locs hP hD hS => ?_)
  have hP : va_P (dC, dI) vwCl [(xa38, .inr (4, [.ref xa39, .ref xa40, .int 0])), (xa39, .inl (kJ, 23, .inr (.inl (vp_updL (vp_updL f1 0 1000000000000) 1 0))))] H := hP
  have hD : va_D A [(xa38, .inr (4, [.ref xa39, .ref xa40, .int 0])), (xa39, .inl (kJ, 23, .inr (.inl (vp_updL (vp_updL f1 0 1000000000000) 1 0))))] := hD
  refine lv_iinc (v := 2) (lv' := [(2, .int 2), (0, .ref xa38), (1, .int 5)]) hx hb dX4_begin_23 hl (k := 0) rfl (by decide) (by decide) rfl (fun ls hl => ?_)
  refine lv_goto (tgt := 11) hx hb dX4_begin_26 (by decide) ?_
  refine lv_iload_n hx hb dX4_begin_11 rfl (lv_at hl 0 rfl) ?_
  refine lv_iload_n hx hb dX4_begin_12 rfl (lv_at hl 2 rfl) ?_
  refine lv_icmp_gt (tgt := 29) hx hb dX4_begin_13 (by decide) (fun c9 => absurd c9 (by decide)) (fun _ => ?_)
  refine lv_aload_n hx hb dX4_begin_16 rfl (lv_at hl 1 rfl) ?_
  refine va_get (D := (dC, dI)) (ci := 4) (v := .ref xa39) (C := RX4) (T := TX4) (N := 3) hx hb hts hin4 hown hK hP 0 rfl rfl 0 (by decide) (hts (.fieldLink RX4 9 "PathProber$Odds" "met" "[J") (List.mem_of_getElem? (i := 1) (by decide +kernel))) (fun _ h9 => h9) rfl dX4_begin_17 ?_
  refine lv_iload_n hx hb dX4_begin_20 rfl (lv_at hl 0 rfl) ?_
  refine lv_lconst (v := 0) hx hb dX4_begin_21 (by decide) ?_
  refine va_last hx hb hK hP hD hS 1 2 rfl rfl (vp_in_nI (n := 2) (by decide) (by decide)) dX4_begin_22 (fun H locs hP hD hS => ?_)
  have hP : va_P (dC, dI) vwCl [(xa38, .inr (4, [.ref xa39, .ref xa40, .int 0])), (xa39, .inl (kJ, 23, .inr (.inl (vp_updL (vp_updL (vp_updL f1 0 1000000000000) 1 0) 2 0))))] H := hP
  have hD : va_D A [(xa38, .inr (4, [.ref xa39, .ref xa40, .int 0])), (xa39, .inl (kJ, 23, .inr (.inl (vp_updL (vp_updL (vp_updL f1 0 1000000000000) 1 0) 2 0))))] := hD
  refine lv_iinc (v := 3) (lv' := [(2, .int 3), (0, .ref xa38), (1, .int 5)]) hx hb dX4_begin_23 hl (k := 0) rfl (by decide) (by decide) rfl (fun ls hl => ?_)
  refine lv_goto (tgt := 11) hx hb dX4_begin_26 (by decide) ?_
  refine lv_iload_n hx hb dX4_begin_11 rfl (lv_at hl 0 rfl) ?_
  refine lv_iload_n hx hb dX4_begin_12 rfl (lv_at hl 2 rfl) ?_
  refine lv_icmp_gt (tgt := 29) hx hb dX4_begin_13 (by decide) (fun c9 => absurd c9 (by decide)) (fun _ => ?_)
  refine lv_aload_n hx hb dX4_begin_16 rfl (lv_at hl 1 rfl) ?_
  refine va_get (D := (dC, dI)) (ci := 4) (v := .ref xa39) (C := RX4) (T := TX4) (N := 3) hx hb hts hin4 hown hK hP 0 rfl rfl 0 (by decide) (hts (.fieldLink RX4 9 "PathProber$Odds" "met" "[J") (List.mem_of_getElem? (i := 1) (by decide +kernel))) (fun _ h9 => h9) rfl dX4_begin_17 ?_
  refine lv_iload_n hx hb dX4_begin_20 rfl (lv_at hl 0 rfl) ?_
  refine lv_lconst (v := 0) hx hb dX4_begin_21 (by decide) ?_
  refine va_last hx hb hK hP hD hS 1 2 rfl rfl (vp_in_nI (n := 3) (by decide) (by decide)) dX4_begin_22 (fun H locs hP hD hS => ?_)
  have hP : va_P (dC, dI) vwCl [(xa38, .inr (4, [.ref xa39, .ref xa40, .int 0])), (xa39, .inl (kJ, 23, .inr (.inl (vp_updL (vp_updL (vp_updL (vp_updL f1 0 1000000000000) 1 0) 2 0) 3 0))))] H := hP
  have hD : va_D A [(xa38, .inr (4, [.ref xa39, .ref xa40, .int 0])), (xa39, .inl (kJ, 23, .inr (.inl (vp_updL (vp_updL (vp_updL (vp_updL f1 0 1000000000000) 1 0) 2 0) 3 0))))] := hD
  refine lv_iinc (v := 4) (lv' := [(2, .int 4), (0, .ref xa38), (1, .int 5)]) hx hb dX4_begin_23 hl (k := 0) rfl (by decide) (by decide) rfl (fun ls hl => ?_)
  refine lv_goto (tgt := 11) hx hb dX4_begin_26 (by decide) ?_
  refine lv_iload_n hx hb dX4_begin_11 rfl (lv_at hl 0 rfl) ?_
  refine lv_iload_n hx hb dX4_begin_12 rfl (lv_at hl 2 rfl) ?_
  refine lv_icmp_gt (tgt := 29) hx hb dX4_begin_13 (by decide) (fun c9 => absurd c9 (by decide)) (fun _ => ?_)
  refine lv_aload_n hx hb dX4_begin_16 rfl (lv_at hl 1 rfl) ?_
  refine va_get (D := (dC, dI)) (ci := 4) (v := .ref xa39) (C := RX4) (T := TX4) (N := 3) hx hb hts hin4 hown hK hP 0 rfl rfl 0 (by decide) (hts (.fieldLink RX4 9 "PathProber$Odds" "met" "[J") (List.mem_of_getElem? (i := 1) (by decide +kernel))) (fun _ h9 => h9) rfl dX4_begin_17 ?_
  refine lv_iload_n hx hb dX4_begin_20 rfl (lv_at hl 0 rfl) ?_
  refine lv_lconst (v := 0) hx hb dX4_begin_21 (by decide) ?_
  refine va_last hx hb hK hP hD hS 1 2 rfl rfl (vp_in_nI (n := 4) (by decide) (by decide)) dX4_begin_22 (fun H locs hP hD hS => ?_)
  have hP : va_P (dC, dI) vwCl [(xa38, .inr (4, [.ref xa39, .ref xa40, .int 0])), (xa39, .inl (kJ, 23, .inr (.inl (vp_updL (vp_updL (vp_updL (vp_updL (vp_updL f1 0 1000000000000) 1 0) 2 0) 3 0) 4 0))))] H := hP
  have hD : va_D A [(xa38, .inr (4, [.ref xa39, .ref xa40, .int 0])), (xa39, .inl (kJ, 23, .inr (.inl (vp_updL (vp_updL (vp_updL (vp_updL (vp_updL f1 0 1000000000000) 1 0) 2 0) 3 0) 4 0))))] := hD
  refine lv_iinc (v := 5) (lv' := [(2, .int 5), (0, .ref xa38), (1, .int 5)]) hx hb dX4_begin_23 hl (k := 0) rfl (by decide) (by decide) rfl (fun ls hl => ?_)
  refine lv_goto (tgt := 11) hx hb dX4_begin_26 (by decide) ?_
  refine lv_iload_n hx hb dX4_begin_11 rfl (lv_at hl 0 rfl) ?_
  refine lv_iload_n hx hb dX4_begin_12 rfl (lv_at hl 2 rfl) ?_
  refine lv_icmp_gt (tgt := 29) hx hb dX4_begin_13 (by decide) (fun c9 => absurd c9 (by decide)) (fun _ => ?_)
  refine lv_aload_n hx hb dX4_begin_16 rfl (lv_at hl 1 rfl) ?_
  refine va_get (D := (dC, dI)) (ci := 4) (v := .ref xa39) (C := RX4) (T := TX4) (N := 3) hx hb hts hin4 hown hK hP 0 rfl rfl 0 (by decide) (hts (.fieldLink RX4 9 "PathProber$Odds" "met" "[J") (List.mem_of_getElem? (i := 1) (by decide +kernel))) (fun _ h9 => h9) rfl dX4_begin_17 ?_
  refine lv_iload_n hx hb dX4_begin_20 rfl (lv_at hl 0 rfl) ?_
  refine lv_lconst (v := 0) hx hb dX4_begin_21 (by decide) ?_
  refine va_last hx hb hK hP hD hS 1 2 rfl rfl (vp_in_nI (n := 5) (by decide) (by decide)) dX4_begin_22 (fun H locs hP hD hS => ?_)
  have hP : va_P (dC, dI) vwCl [(xa38, .inr (4, [.ref xa39, .ref xa40, .int 0])), (xa39, .inl (kJ, 23, .inr (.inl (vp_updL (vp_updL (vp_updL (vp_updL (vp_updL (vp_updL f1 0 1000000000000) 1 0) 2 0) 3 0) 4 0) 5 0))))] H := hP
  have hD : va_D A [(xa38, .inr (4, [.ref xa39, .ref xa40, .int 0])), (xa39, .inl (kJ, 23, .inr (.inl (vp_updL (vp_updL (vp_updL (vp_updL (vp_updL (vp_updL f1 0 1000000000000) 1 0) 2 0) 3 0) 4 0) 5 0))))] := hD
  refine lv_iinc (v := 6) (lv' := [(2, .int 6), (0, .ref xa38), (1, .int 5)]) hx hb dX4_begin_23 hl (k := 0) rfl (by decide) (by decide) rfl (fun ls hl => ?_)
  refine lv_goto (tgt := 11) hx hb dX4_begin_26 (by decide) ?_
  refine lv_iload_n hx hb dX4_begin_11 rfl (lv_at hl 0 rfl) ?_
  refine lv_iload_n hx hb dX4_begin_12 rfl (lv_at hl 2 rfl) ?_
  refine lv_icmp_gt (tgt := 29) hx hb dX4_begin_13 (by decide) (fun _ => ?_) (fun c9 => absurd (by decide) c9)
  have hP9 := hP.sub (ws' := [(xa38, .inr (4, [.ref xa39, .ref xa40, .int 0])), (xa39, .inl (kJ, 23, .inr (.inl (vp_updL (vp_updL (vp_updL (vp_updL (vp_updL (vp_updL f1 0 1000000000000) 1 0) 2 0) 3 0) 4 0) 5 0))))]) [0, 1] rfl
  have hD9 := hD.sub (ws' := [(xa38, .inr (4, [.ref xa39, .ref xa40, .int 0])), (xa39, .inl (kJ, 23, .inr (.inl (vp_updL (vp_updL (vp_updL (vp_updL (vp_updL (vp_updL f1 0 1000000000000) 1 0) 2 0) 3 0) 4 0) 5 0))))]) [0, 1] (by decide) rfl
  exact W.vret hx hb hr (fun t ht hW => ⟨⟨(), rfl, trivial, vp_updL (vp_updL (vp_updL (vp_updL (vp_updL (vp_updL f1 0 1000000000000) 1 0) 2 0) 3 0) 4 0) 5 0, rfl, rfl, rfl, rfl, rfl, rfl, by rw [ht]; exact hP9, hD9⟩, hS.F ht⟩) hS.2.2 dX4_begin_29
def rm_k4_sendNext_5 : Room := { frames := 0, cells := 0, slots := 0, locals := 0 }
set_option maxHeartbeats 4000000 in
set_option maxRecDepth 100000 in
theorem k4_sendNext_5 (l : Launch) (dC : Nat → ClassId) (dI : Nat → Nat → Nat) (kB kI kJ kZ kC kS : ClassId) (sz : Nat) (xa38 : Nat) (xa39 : Nat) (xa40 : Nat) (f1 : Nat → Int64) : Met l yX4_sendNext wsX4_sendNext rm_k4_sendNext_5 (va_Pc [.ref xa38, .int 5] (fun U => U.heap.size = sz ∧ va_P (dC, dI) vwCl [(xa38, .inr (4, [.ref xa39, .ref xa40, .int 0])), (xa39, .inl (kJ, 23, .inr (.inl f1)))] U.heap ∧ kE dC dI kB kI kJ kZ kC kS U ∧ va_D (fun _ => True) [(xa38, .inr (4, [.ref xa39, .ref xa40, .int 0])), (xa39, .inl (kJ, 23, .inr (.inl f1)))])) (va_Qv (fun (_ : Unit) => True) (fun _ t => ∃ (g1 : Nat → Int64), g1 0 = f1 0 * 0 / 5 ∧ g1 1 = f1 1 * 1 / 5 + (f1 0 - f1 0 * 0 / 5) ∧ g1 2 = f1 2 * 2 / 5 + (f1 1 - f1 1 * 1 / 5) ∧ g1 3 = f1 3 * 3 / 5 + (f1 2 - f1 2 * 2 / 5) ∧ g1 4 = f1 4 * 4 / 5 + (f1 3 - f1 3 * 3 / 5) ∧ g1 5 = f1 5 + (f1 4 - f1 4 * 4 / 5) ∧ va_P (dC, dI) vwCl [(xa38, .inr (4, [.ref xa39, .ref xa40, .int 0])), (xa39, .inl (kJ, 23, .inr (.inl g1)))] t.heap ∧ va_D (va_A [(xa38, .inr (4, [.ref xa39, .ref xa40, .int 0])), (xa39, .inl (kJ, 23, .inr (.inl f1)))] sz) [(xa38, .inr (4, [.ref xa39, .ref xa40, .int 0])), (xa39, .inl (kJ, 23, .inr (.inl g1)))]) (va_A [(xa38, .inr (4, [.ref xa39, .ref xa40, .int 0])), (xa39, .inl (kJ, 23, .inr (.inl f1)))] sz)) 0 0 (va_A [(xa38, .inr (4, [.ref xa39, .ref xa40, .int 0])), (xa39, .inl (kJ, 23, .inr (.inl f1)))] sz) := by
  refine Met.ofW (cc := cX4_sendNext) (maxL := 5) (ret := none) (by decide) rfl ?_
  intro p e s m args0 below meth c s₁ B hml hv
  obtain ⟨hargs, hsz, hP, hE, hD0⟩ := hv
  have hx := B.exec
  have hb := B.bytes
  have hr := B.returns
  have hts := atoms_spec (ws := wsX4_sendNext) B.pre
  have hown : s.vm.findClass RX4 = some m.cls := findClass_of_methodNamed B.named
  have hlocks := B.notSynchronized
  have hK := hE.1
  have hin4 : ∀ w ∈ wsX40, w ∈ wsX4_sendNext := fun _ h9 => List.mem_cons_of_mem _ (List.mem_append_right _ h9)
  subst hsz
  have hD := hD0.self (sz := s.heap.size)
  generalize hAe : va_A [(xa38, .inr (4, [.ref xa39, .ref xa40, .int 0])), (xa39, .inl (kJ, 23, .inr (.inl f1)))] s.heap.size = A at hD ⊢
  have hA : ∀ q : Nat, s.heap.size ≤ q → A q := fun q h => by rw [← hAe]; exact Or.inr h
  have hS : va_S A s.heap s.heap [] := va_S.rf
  have hP : va_P (dC, dI) vwCl [(xa38, .inr (4, [.ref xa39, .ref xa40, .int 0])), (xa39, .inl (kJ, 23, .inr (.inl f1)))] s.heap := hP
  have hl := lv_entry ([.ref xa38, .int 5]) (n := 5) (Nat.le_of_ble_eq_true rfl)
  have hla : entryFrame m args0 5 = entryFrame m ([.ref xa38, .int 5] : List Value).toArray 5 := by rw [hargs]
  rw [hla, lg_entry_eq]
  generalize (lg_sl ([.ref xa38, .int 5]) ++ List.replicate (5 - (lg_sl ([.ref xa38, .int 5])).length) Slot.unset).toArray = ls at hl ⊢
  have hl : lv_has ls 5 [(0, .ref xa38), (1, .int 5)] := hl
  refine lv_iload_n hx hb dX4_sendNext_0 rfl (lv_at hl 1 rfl) ?_
  refine lv_iconst (v := 1) hx hb dX4_sendNext_1 (by decide) ?_
  refine lv_icmp_lt (tgt := 14) hx hb dX4_sendNext_2 (by decide) (fun c9 => absurd c9 (by decide)) (fun _ => ?_)
  refine lv_iload_n hx hb dX4_sendNext_5 rfl (lv_at hl 1 rfl) ?_
  refine lv_aload_n hx hb dX4_sendNext_6 rfl (lv_at hl 0 rfl) ?_
  refine va_get (D := (dC, dI)) (ci := 4) (v := .ref xa39) (C := RX4) (T := TX4) (N := 3) hx hb hts hin4 hown hK hP 0 rfl rfl 0 (by decide) (hts (.fieldLink RX4 9 "PathProber$Odds" "met" "[J") (List.mem_of_getElem? (i := 1) (by decide +kernel))) (fun _ h9 => h9) rfl dX4_sendNext_7 ?_
  refine va_alen (v := 23) hx hb hK hP 1 2 rfl rfl rfl dX4_sendNext_10 ?_
  refine lv_icmp_lt (tgt := 15) hx hb dX4_sendNext_11 (by decide) (fun _ => ?_) (fun c9 => absurd (by decide) c9)
  refine lv_iload_n hx hb dX4_sendNext_15 rfl (lv_at hl 1 rfl) ?_
  refine lv_iconst (v := 1) hx hb dX4_sendNext_16 (by decide) ?_
  refine lv_isub hx hb dX4_sendNext_17 ?_
  refine lv_topi (fun z1 e2 => ?_)
  obtain rfl : z1 = (4 : Int32) := e2.trans (by decide)
  refine lv_istore_n (lv' := [(2, .int 4), (0, .ref xa38), (1, .int 5)]) hx hb dX4_sendNext_18 rfl hl (by decide) rfl (fun ls hl => ?_)
  refine lv_iload_n hx hb dX4_sendNext_19 rfl (lv_at hl 0 rfl) ?_
  refine lv_if_lt (tgt := 68) hx hb dX4_sendNext_20 (by decide) (fun c9 => absurd c9 (by decide)) (fun _ => ?_)
  refine lv_aload_n hx hb dX4_sendNext_23 rfl (lv_at hl 1 rfl) ?_
  refine va_get (D := (dC, dI)) (ci := 4) (v := .ref xa39) (C := RX4) (T := TX4) (N := 3) hx hb hts hin4 hown hK hP 0 rfl rfl 0 (by decide) (hts (.fieldLink RX4 9 "PathProber$Odds" "met" "[J") (List.mem_of_getElem? (i := 1) (by decide +kernel))) (fun _ h9 => h9) rfl dX4_sendNext_24 ?_
  refine lv_iload_n hx hb dX4_sendNext_27 rfl (lv_at hl 0 rfl) ?_
  refine va_lald hx hb hK hP 1 2 rfl rfl (vp_in_nI (n := 4) (by decide) (by decide)) dX4_sendNext_28 ?_
  refine lv_topl (fun z3 e4 => ?_)
  obtain rfl : z3 = (f1 4 : Int64) := e4
  refine lv_iload_n hx hb dX4_sendNext_29 rfl (lv_at hl 0 rfl) ?_
  refine lv_i2l (v := 4) hx hb dX4_sendNext_30 (by decide) ?_
  refine lv_lmul hx hb dX4_sendNext_31 ?_
  refine lv_iload_n hx hb dX4_sendNext_32 rfl (lv_at hl 2 rfl) ?_
  refine lv_i2l (v := 5) hx hb dX4_sendNext_33 (by decide) ?_
  refine lv_ldiv hx hb dX4_sendNext_34 (by decide) ?_
  refine lv_lstore_n (lv' := [(3, .long (((f1 4) * 4) / 5)), (2, .int 4), (0, .ref xa38), (1, .int 5)]) hx hb dX4_sendNext_35 rfl hl (by decide) rfl (fun ls hl => ?_)
  refine lv_aload_n hx hb dX4_sendNext_36 rfl (lv_at hl 2 rfl) ?_
  refine va_get (D := (dC, dI)) (ci := 4) (v := .ref xa39) (C := RX4) (T := TX4) (N := 3) hx hb hts hin4 hown hK hP 0 rfl rfl 0 (by decide) (hts (.fieldLink RX4 9 "PathProber$Odds" "met" "[J") (List.mem_of_getElem? (i := 1) (by decide +kernel))) (fun _ h9 => h9) rfl dX4_sendNext_37 ?_
  refine lv_iload_n hx hb dX4_sendNext_40 rfl (lv_at hl 1 rfl) ?_
  refine lv_iconst (v := 1) hx hb dX4_sendNext_41 (by decide) ?_
  refine lv_iadd hx hb dX4_sendNext_42 ?_
  refine lv_topi (fun z5 e6 => ?_)
  obtain rfl : z5 = (5 : Int32) := e6.trans (by decide)
  refine lv_dup2_11 hx hb dX4_sendNext_43 rfl rfl ?_
  refine va_lald hx hb hK hP 1 2 rfl rfl (vp_in_nI (n := 5) (by decide) (by decide)) dX4_sendNext_44 ?_
  refine lv_topl (fun z7 e8 => ?_)
  obtain rfl : z7 = (f1 5 : Int64) := e8
  refine lv_aload_n hx hb dX4_sendNext_45 rfl (lv_at hl 2 rfl) ?_
  refine va_get (D := (dC, dI)) (ci := 4) (v := .ref xa39) (C := RX4) (T := TX4) (N := 3) hx hb hts hin4 hown hK hP 0 rfl rfl 0 (by decide) (hts (.fieldLink RX4 9 "PathProber$Odds" "met" "[J") (List.mem_of_getElem? (i := 1) (by decide +kernel))) (fun _ h9 => h9) rfl dX4_sendNext_46 ?_
  refine lv_iload_n hx hb dX4_sendNext_49 rfl (lv_at hl 1 rfl) ?_
  refine va_lald hx hb hK hP 1 2 rfl rfl (vp_in_nI (n := 4) (by decide) (by decide)) dX4_sendNext_50 ?_
  refine lv_topl (fun z9 e10 => ?_)
  obtain rfl : z9 = (f1 4 : Int64) := e10
  refine lv_lload_n hx hb dX4_sendNext_51 rfl (lv_at hl 0 rfl) ?_
  refine lv_lsub hx hb dX4_sendNext_52 ?_
  refine lv_ladd hx hb dX4_sendNext_53 ?_
  refine va_last hx hb hK hP hD hS 1 2 rfl rfl (vp_in_nI (n := 5) (by decide) (by decide)) dX4_sendNext_54 (fun H locs hP hD hS => ?_)
  have hP : va_P (dC, dI) vwCl [(xa38, .inr (4, [.ref xa39, .ref xa40, .int 0])), (xa39, .inl (kJ, 23, .inr (.inl (vp_updL f1 5 ((f1 5) + ((f1 4) - (((f1 4) * 4) / 5)))))))] H := hP
  have hD : va_D A [(xa38, .inr (4, [.ref xa39, .ref xa40, .int 0])), (xa39, .inl (kJ, 23, .inr (.inl (vp_updL f1 5 ((f1 5) + ((f1 4) - (((f1 4) * 4) / 5)))))))] := hD
  refine lv_aload_n hx hb dX4_sendNext_55 rfl (lv_at hl 2 rfl) ?_
  refine va_get (D := (dC, dI)) (ci := 4) (v := .ref xa39) (C := RX4) (T := TX4) (N := 3) hx hb hts hin4 hown hK hP 0 rfl rfl 0 (by decide) (hts (.fieldLink RX4 9 "PathProber$Odds" "met" "[J") (List.mem_of_getElem? (i := 1) (by decide +kernel))) (fun _ h9 => h9) rfl dX4_sendNext_56 ?_
  refine lv_iload_n hx hb dX4_sendNext_59 rfl (lv_at hl 1 rfl) ?_
  refine lv_lload_n hx hb dX4_sendNext_60 rfl (lv_at hl 0 rfl) ?_
  refine va_last hx hb hK hP hD hS 1 2 rfl rfl (vp_in_nI (n := 4) (by decide) (by decide)) dX4_sendNext_61 (fun H locs hP hD hS => ?_)
  have hP : va_P (dC, dI) vwCl [(xa38, .inr (4, [.ref xa39, .ref xa40, .int 0])), (xa39, .inl (kJ, 23, .inr (.inl (vp_updL (vp_updL f1 5 ((f1 5) + ((f1 4) - (((f1 4) * 4) / 5)))) 4 (((f1 4) * 4) / 5)))))] H := hP
  have hD : va_D A [(xa38, .inr (4, [.ref xa39, .ref xa40, .int 0])), (xa39, .inl (kJ, 23, .inr (.inl (vp_updL (vp_updL f1 5 ((f1 5) + ((f1 4) - (((f1 4) * 4) / 5)))) 4 (((f1 4) * 4) / 5)))))] := hD
  refine lv_iinc (v := 3) (lv' := [(2, .int 3), (3, .long (((f1 4) * 4) / 5)), (0, .ref xa38), (1, .int 5)]) hx hb dX4_sendNext_62 hl (k := 1) rfl (by decide) (by decide) rfl (fun ls hl => ?_)
  refine lv_goto (tgt := 19) hx hb dX4_sendNext_65 (by decide) ?_
  refine lv_iload_n hx hb dX4_sendNext_19 rfl (lv_at hl 0 rfl) ?_
  refine lv_if_lt (tgt := 68) hx hb dX4_sendNext_20 (by decide) (fun c9 => absurd c9 (by decide)) (fun _ => ?_)
  refine lv_aload_n hx hb dX4_sendNext_23 rfl (lv_at hl 2 rfl) ?_
  refine va_get (D := (dC, dI)) (ci := 4) (v := .ref xa39) (C := RX4) (T := TX4) (N := 3) hx hb hts hin4 hown hK hP 0 rfl rfl 0 (by decide) (hts (.fieldLink RX4 9 "PathProber$Odds" "met" "[J") (List.mem_of_getElem? (i := 1) (by decide +kernel))) (fun _ h9 => h9) rfl dX4_sendNext_24 ?_
  refine lv_iload_n hx hb dX4_sendNext_27 rfl (lv_at hl 0 rfl) ?_
  refine va_lald hx hb hK hP 1 2 rfl rfl (vp_in_nI (n := 3) (by decide) (by decide)) dX4_sendNext_28 ?_
  refine lv_topl (fun z11 e12 => ?_)
  obtain rfl : z11 = (f1 3 : Int64) := e12
  refine lv_iload_n hx hb dX4_sendNext_29 rfl (lv_at hl 0 rfl) ?_
  refine lv_i2l (v := 3) hx hb dX4_sendNext_30 (by decide) ?_
  refine lv_lmul hx hb dX4_sendNext_31 ?_
  refine lv_iload_n hx hb dX4_sendNext_32 rfl (lv_at hl 3 rfl) ?_
  refine lv_i2l (v := 5) hx hb dX4_sendNext_33 (by decide) ?_
  refine lv_ldiv hx hb dX4_sendNext_34 (by decide) ?_
  refine lv_lstore_n (lv' := [(3, .long (((f1 3) * 3) / 5)), (2, .int 3), (0, .ref xa38), (1, .int 5)]) hx hb dX4_sendNext_35 rfl hl (by decide) rfl (fun ls hl => ?_)
  refine lv_aload_n hx hb dX4_sendNext_36 rfl (lv_at hl 2 rfl) ?_
  refine va_get (D := (dC, dI)) (ci := 4) (v := .ref xa39) (C := RX4) (T := TX4) (N := 3) hx hb hts hin4 hown hK hP 0 rfl rfl 0 (by decide) (hts (.fieldLink RX4 9 "PathProber$Odds" "met" "[J") (List.mem_of_getElem? (i := 1) (by decide +kernel))) (fun _ h9 => h9) rfl dX4_sendNext_37 ?_
  refine lv_iload_n hx hb dX4_sendNext_40 rfl (lv_at hl 1 rfl) ?_
  refine lv_iconst (v := 1) hx hb dX4_sendNext_41 (by decide) ?_
  refine lv_iadd hx hb dX4_sendNext_42 ?_
  refine lv_topi (fun z13 e14 => ?_)
  obtain rfl : z13 = (4 : Int32) := e14.trans (by decide)
  refine lv_dup2_11 hx hb dX4_sendNext_43 rfl rfl ?_
  refine va_lald hx hb hK hP 1 2 rfl rfl (vp_in_nI (n := 4) (by decide) (by decide)) dX4_sendNext_44 ?_
  refine lv_topl (fun z15 e16 => ?_)
  obtain rfl : z15 = (((f1 4) * 4) / 5 : Int64) := e16
  refine lv_aload_n hx hb dX4_sendNext_45 rfl (lv_at hl 2 rfl) ?_
  refine va_get (D := (dC, dI)) (ci := 4) (v := .ref xa39) (C := RX4) (T := TX4) (N := 3) hx hb hts hin4 hown hK hP 0 rfl rfl 0 (by decide) (hts (.fieldLink RX4 9 "PathProber$Odds" "met" "[J") (List.mem_of_getElem? (i := 1) (by decide +kernel))) (fun _ h9 => h9) rfl dX4_sendNext_46 ?_
  refine lv_iload_n hx hb dX4_sendNext_49 rfl (lv_at hl 1 rfl) ?_
  refine va_lald hx hb hK hP 1 2 rfl rfl (vp_in_nI (n := 3) (by decide) (by decide)) dX4_sendNext_50 ?_
  refine lv_topl (fun z17 e18 => ?_)
  obtain rfl : z17 = (f1 3 : Int64) := e18
  refine lv_lload_n hx hb dX4_sendNext_51 rfl (lv_at hl 0 rfl) ?_
  refine lv_lsub hx hb dX4_sendNext_52 ?_
  refine lv_ladd hx hb dX4_sendNext_53 ?_
  refine va_last hx hb hK hP hD hS 1 2 rfl rfl (vp_in_nI (n := 4) (by decide) (by decide)) dX4_sendNext_54 (fun H locs hP hD hS => ?_)
  have hP : va_P (dC, dI) vwCl [(xa38, .inr (4, [.ref xa39, .ref xa40, .int 0])), (xa39, .inl (kJ, 23, .inr (.inl (vp_updL (vp_updL (vp_updL f1 5 ((f1 5) + ((f1 4) - (((f1 4) * 4) / 5)))) 4 (((f1 4) * 4) / 5)) 4 ((((f1 4) * 4) / 5) + ((f1 3) - (((f1 3) * 3) / 5)))))))] H := hP
  have hD : va_D A [(xa38, .inr (4, [.ref xa39, .ref xa40, .int 0])), (xa39, .inl (kJ, 23, .inr (.inl (vp_updL (vp_updL (vp_updL f1 5 ((f1 5) + ((f1 4) - (((f1 4) * 4) / 5)))) 4 (((f1 4) * 4) / 5)) 4 ((((f1 4) * 4) / 5) + ((f1 3) - (((f1 3) * 3) / 5)))))))] := hD
  refine lv_aload_n hx hb dX4_sendNext_55 rfl (lv_at hl 2 rfl) ?_
  refine va_get (D := (dC, dI)) (ci := 4) (v := .ref xa39) (C := RX4) (T := TX4) (N := 3) hx hb hts hin4 hown hK hP 0 rfl rfl 0 (by decide) (hts (.fieldLink RX4 9 "PathProber$Odds" "met" "[J") (List.mem_of_getElem? (i := 1) (by decide +kernel))) (fun _ h9 => h9) rfl dX4_sendNext_56 ?_
  refine lv_iload_n hx hb dX4_sendNext_59 rfl (lv_at hl 1 rfl) ?_
  refine lv_lload_n hx hb dX4_sendNext_60 rfl (lv_at hl 0 rfl) ?_
  refine va_last hx hb hK hP hD hS 1 2 rfl rfl (vp_in_nI (n := 3) (by decide) (by decide)) dX4_sendNext_61 (fun H locs hP hD hS => ?_)
  have hP : va_P (dC, dI) vwCl [(xa38, .inr (4, [.ref xa39, .ref xa40, .int 0])), (xa39, .inl (kJ, 23, .inr (.inl (vp_updL (vp_updL (vp_updL (vp_updL f1 5 ((f1 5) + ((f1 4) - (((f1 4) * 4) / 5)))) 4 (((f1 4) * 4) / 5)) 4 ((((f1 4) * 4) / 5) + ((f1 3) - (((f1 3) * 3) / 5)))) 3 (((f1 3) * 3) / 5)))))] H := hP
  have hD : va_D A [(xa38, .inr (4, [.ref xa39, .ref xa40, .int 0])), (xa39, .inl (kJ, 23, .inr (.inl (vp_updL (vp_updL (vp_updL (vp_updL f1 5 ((f1 5) + ((f1 4) - (((f1 4) * 4) / 5)))) 4 (((f1 4) * 4) / 5)) 4 ((((f1 4) * 4) / 5) + ((f1 3) - (((f1 3) * 3) / 5)))) 3 (((f1 3) * 3) / 5)))))] := hD
  refine lv_iinc (v := 2) (lv' := [(2, .int 2), (3, .long (((f1 3) * 3) / 5)), (0, .ref xa38), (1, .int 5)]) hx hb dX4_sendNext_62 hl (k := 1) rfl (by decide) (by decide) rfl (fun ls hl => ?_)
  refine lv_goto (tgt := 19) hx hb dX4_sendNext_65 (by decide) ?_
  refine lv_iload_n hx hb dX4_sendNext_19 rfl (lv_at hl 0 rfl) ?_
  refine lv_if_lt (tgt := 68) hx hb dX4_sendNext_20 (by decide) (fun c9 => absurd c9 (by decide)) (fun _ => ?_)
  refine lv_aload_n hx hb dX4_sendNext_23 rfl (lv_at hl 2 rfl) ?_
  refine va_get (D := (dC, dI)) (ci := 4) (v := .ref xa39) (C := RX4) (T := TX4) (N := 3) hx hb hts hin4 hown hK hP 0 rfl rfl 0 (by decide) (hts (.fieldLink RX4 9 "PathProber$Odds" "met" "[J") (List.mem_of_getElem? (i := 1) (by decide +kernel))) (fun _ h9 => h9) rfl dX4_sendNext_24 ?_
  refine lv_iload_n hx hb dX4_sendNext_27 rfl (lv_at hl 0 rfl) ?_
  refine va_lald hx hb hK hP 1 2 rfl rfl (vp_in_nI (n := 2) (by decide) (by decide)) dX4_sendNext_28 ?_
  refine lv_topl (fun z19 e20 => ?_)
  obtain rfl : z19 = (f1 2 : Int64) := e20
  refine lv_iload_n hx hb dX4_sendNext_29 rfl (lv_at hl 0 rfl) ?_
  refine lv_i2l (v := 2) hx hb dX4_sendNext_30 (by decide) ?_
  refine lv_lmul hx hb dX4_sendNext_31 ?_
  refine lv_iload_n hx hb dX4_sendNext_32 rfl (lv_at hl 3 rfl) ?_
  refine lv_i2l (v := 5) hx hb dX4_sendNext_33 (by decide) ?_
  refine lv_ldiv hx hb dX4_sendNext_34 (by decide) ?_
  refine lv_lstore_n (lv' := [(3, .long (((f1 2) * 2) / 5)), (2, .int 2), (0, .ref xa38), (1, .int 5)]) hx hb dX4_sendNext_35 rfl hl (by decide) rfl (fun ls hl => ?_)
  refine lv_aload_n hx hb dX4_sendNext_36 rfl (lv_at hl 2 rfl) ?_
  refine va_get (D := (dC, dI)) (ci := 4) (v := .ref xa39) (C := RX4) (T := TX4) (N := 3) hx hb hts hin4 hown hK hP 0 rfl rfl 0 (by decide) (hts (.fieldLink RX4 9 "PathProber$Odds" "met" "[J") (List.mem_of_getElem? (i := 1) (by decide +kernel))) (fun _ h9 => h9) rfl dX4_sendNext_37 ?_
  refine lv_iload_n hx hb dX4_sendNext_40 rfl (lv_at hl 1 rfl) ?_
  refine lv_iconst (v := 1) hx hb dX4_sendNext_41 (by decide) ?_
  refine lv_iadd hx hb dX4_sendNext_42 ?_
  refine lv_topi (fun z21 e22 => ?_)
  obtain rfl : z21 = (3 : Int32) := e22.trans (by decide)
  refine lv_dup2_11 hx hb dX4_sendNext_43 rfl rfl ?_
  refine va_lald hx hb hK hP 1 2 rfl rfl (vp_in_nI (n := 3) (by decide) (by decide)) dX4_sendNext_44 ?_
  refine lv_topl (fun z23 e24 => ?_)
  obtain rfl : z23 = (((f1 3) * 3) / 5 : Int64) := e24
  refine lv_aload_n hx hb dX4_sendNext_45 rfl (lv_at hl 2 rfl) ?_
  refine va_get (D := (dC, dI)) (ci := 4) (v := .ref xa39) (C := RX4) (T := TX4) (N := 3) hx hb hts hin4 hown hK hP 0 rfl rfl 0 (by decide) (hts (.fieldLink RX4 9 "PathProber$Odds" "met" "[J") (List.mem_of_getElem? (i := 1) (by decide +kernel))) (fun _ h9 => h9) rfl dX4_sendNext_46 ?_
  refine lv_iload_n hx hb dX4_sendNext_49 rfl (lv_at hl 1 rfl) ?_
  refine va_lald hx hb hK hP 1 2 rfl rfl (vp_in_nI (n := 2) (by decide) (by decide)) dX4_sendNext_50 ?_
  refine lv_topl (fun z25 e26 => ?_)
  obtain rfl : z25 = (f1 2 : Int64) := e26
  refine lv_lload_n hx hb dX4_sendNext_51 rfl (lv_at hl 0 rfl) ?_
  refine lv_lsub hx hb dX4_sendNext_52 ?_
  refine lv_ladd hx hb dX4_sendNext_53 ?_
  refine va_last hx hb hK hP hD hS 1 2 rfl rfl (vp_in_nI (n := 3) (by decide) (by decide)) dX4_sendNext_54 (fun H locs hP hD hS => ?_)
  have hP : va_P (dC, dI) vwCl [(xa38, .inr (4, [.ref xa39, .ref xa40, .int 0])), (xa39, .inl (kJ, 23, .inr (.inl (vp_updL (vp_updL (vp_updL (vp_updL (vp_updL f1 5 ((f1 5) + ((f1 4) - (((f1 4) * 4) / 5)))) 4 (((f1 4) * 4) / 5)) 4 ((((f1 4) * 4) / 5) + ((f1 3) - (((f1 3) * 3) / 5)))) 3 (((f1 3) * 3) / 5)) 3 ((((f1 3) * 3) / 5) + ((f1 2) - (((f1 2) * 2) / 5)))))))] H := hP
  have hD : va_D A [(xa38, .inr (4, [.ref xa39, .ref xa40, .int 0])), (xa39, .inl (kJ, 23, .inr (.inl (vp_updL (vp_updL (vp_updL (vp_updL (vp_updL f1 5 ((f1 5) + ((f1 4) - (((f1 4) * 4) / 5)))) 4 (((f1 4) * 4) / 5)) 4 ((((f1 4) * 4) / 5) + ((f1 3) - (((f1 3) * 3) / 5)))) 3 (((f1 3) * 3) / 5)) 3 ((((f1 3) * 3) / 5) + ((f1 2) - (((f1 2) * 2) / 5)))))))] := hD
  refine lv_aload_n hx hb dX4_sendNext_55 rfl (lv_at hl 2 rfl) ?_
  refine va_get (D := (dC, dI)) (ci := 4) (v := .ref xa39) (C := RX4) (T := TX4) (N := 3) hx hb hts hin4 hown hK hP 0 rfl rfl 0 (by decide) (hts (.fieldLink RX4 9 "PathProber$Odds" "met" "[J") (List.mem_of_getElem? (i := 1) (by decide +kernel))) (fun _ h9 => h9) rfl dX4_sendNext_56 ?_
  refine lv_iload_n hx hb dX4_sendNext_59 rfl (lv_at hl 1 rfl) ?_
  refine lv_lload_n hx hb dX4_sendNext_60 rfl (lv_at hl 0 rfl) ?_
  refine va_last hx hb hK hP hD hS 1 2 rfl rfl (vp_in_nI (n := 2) (by decide) (by decide)) dX4_sendNext_61 (fun H locs hP hD hS => ?_)
  have hP : va_P (dC, dI) vwCl [(xa38, .inr (4, [.ref xa39, .ref xa40, .int 0])), (xa39, .inl (kJ, 23, .inr (.inl (vp_updL (vp_updL (vp_updL (vp_updL (vp_updL (vp_updL f1 5 ((f1 5) + ((f1 4) - (((f1 4) * 4) / 5)))) 4 (((f1 4) * 4) / 5)) 4 ((((f1 4) * 4) / 5) + ((f1 3) - (((f1 3) * 3) / 5)))) 3 (((f1 3) * 3) / 5)) 3 ((((f1 3) * 3) / 5) + ((f1 2) - (((f1 2) * 2) / 5)))) 2 (((f1 2) * 2) / 5)))))] H := hP
  have hD : va_D A [(xa38, .inr (4, [.ref xa39, .ref xa40, .int 0])), (xa39, .inl (kJ, 23, .inr (.inl (vp_updL (vp_updL (vp_updL (vp_updL (vp_updL (vp_updL f1 5 ((f1 5) + ((f1 4) - (((f1 4) * 4) / 5)))) 4 (((f1 4) * 4) / 5)) 4 ((((f1 4) * 4) / 5) + ((f1 3) - (((f1 3) * 3) / 5)))) 3 (((f1 3) * 3) / 5)) 3 ((((f1 3) * 3) / 5) + ((f1 2) - (((f1 2) * 2) / 5)))) 2 (((f1 2) * 2) / 5)))))] := hD
  refine lv_iinc (v := 1) (lv' := [(2, .int 1), (3, .long (((f1 2) * 2) / 5)), (0, .ref xa38), (1, .int 5)]) hx hb dX4_sendNext_62 hl (k := 1) rfl (by decide) (by decide) rfl (fun ls hl => ?_)
  refine lv_goto (tgt := 19) hx hb dX4_sendNext_65 (by decide) ?_
  refine lv_iload_n hx hb dX4_sendNext_19 rfl (lv_at hl 0 rfl) ?_
  refine lv_if_lt (tgt := 68) hx hb dX4_sendNext_20 (by decide) (fun c9 => absurd c9 (by decide)) (fun _ => ?_)
  refine lv_aload_n hx hb dX4_sendNext_23 rfl (lv_at hl 2 rfl) ?_
  refine va_get (D := (dC, dI)) (ci := 4) (v := .ref xa39) (C := RX4) (T := TX4) (N := 3) hx hb hts hin4 hown hK hP 0 rfl rfl 0 (by decide) (hts (.fieldLink RX4 9 "PathProber$Odds" "met" "[J") (List.mem_of_getElem? (i := 1) (by decide +kernel))) (fun _ h9 => h9) rfl dX4_sendNext_24 ?_
  refine lv_iload_n hx hb dX4_sendNext_27 rfl (lv_at hl 0 rfl) ?_
  refine va_lald hx hb hK hP 1 2 rfl rfl (vp_in_nI (n := 1) (by decide) (by decide)) dX4_sendNext_28 ?_
  refine lv_topl (fun z27 e28 => ?_)
  obtain rfl : z27 = (f1 1 : Int64) := e28
  refine lv_iload_n hx hb dX4_sendNext_29 rfl (lv_at hl 0 rfl) ?_
  refine lv_i2l (v := 1) hx hb dX4_sendNext_30 (by decide) ?_
  refine lv_lmul hx hb dX4_sendNext_31 ?_
  refine lv_iload_n hx hb dX4_sendNext_32 rfl (lv_at hl 3 rfl) ?_
  refine lv_i2l (v := 5) hx hb dX4_sendNext_33 (by decide) ?_
  refine lv_ldiv hx hb dX4_sendNext_34 (by decide) ?_
  refine lv_lstore_n (lv' := [(3, .long (((f1 1) * 1) / 5)), (2, .int 1), (0, .ref xa38), (1, .int 5)]) hx hb dX4_sendNext_35 rfl hl (by decide) rfl (fun ls hl => ?_)
  refine lv_aload_n hx hb dX4_sendNext_36 rfl (lv_at hl 2 rfl) ?_
  refine va_get (D := (dC, dI)) (ci := 4) (v := .ref xa39) (C := RX4) (T := TX4) (N := 3) hx hb hts hin4 hown hK hP 0 rfl rfl 0 (by decide) (hts (.fieldLink RX4 9 "PathProber$Odds" "met" "[J") (List.mem_of_getElem? (i := 1) (by decide +kernel))) (fun _ h9 => h9) rfl dX4_sendNext_37 ?_
  refine lv_iload_n hx hb dX4_sendNext_40 rfl (lv_at hl 1 rfl) ?_
  refine lv_iconst (v := 1) hx hb dX4_sendNext_41 (by decide) ?_
  refine lv_iadd hx hb dX4_sendNext_42 ?_
  refine lv_topi (fun z29 e30 => ?_)
  obtain rfl : z29 = (2 : Int32) := e30.trans (by decide)
  refine lv_dup2_11 hx hb dX4_sendNext_43 rfl rfl ?_
  refine va_lald hx hb hK hP 1 2 rfl rfl (vp_in_nI (n := 2) (by decide) (by decide)) dX4_sendNext_44 ?_
  refine lv_topl (fun z31 e32 => ?_)
  obtain rfl : z31 = (((f1 2) * 2) / 5 : Int64) := e32
  refine lv_aload_n hx hb dX4_sendNext_45 rfl (lv_at hl 2 rfl) ?_
  refine va_get (D := (dC, dI)) (ci := 4) (v := .ref xa39) (C := RX4) (T := TX4) (N := 3) hx hb hts hin4 hown hK hP 0 rfl rfl 0 (by decide) (hts (.fieldLink RX4 9 "PathProber$Odds" "met" "[J") (List.mem_of_getElem? (i := 1) (by decide +kernel))) (fun _ h9 => h9) rfl dX4_sendNext_46 ?_
  refine lv_iload_n hx hb dX4_sendNext_49 rfl (lv_at hl 1 rfl) ?_
  refine va_lald hx hb hK hP 1 2 rfl rfl (vp_in_nI (n := 1) (by decide) (by decide)) dX4_sendNext_50 ?_
  refine lv_topl (fun z33 e34 => ?_)
  obtain rfl : z33 = (f1 1 : Int64) := e34
  refine lv_lload_n hx hb dX4_sendNext_51 rfl (lv_at hl 0 rfl) ?_
  refine lv_lsub hx hb dX4_sendNext_52 ?_
  refine lv_ladd hx hb dX4_sendNext_53 ?_
  refine va_last hx hb hK hP hD hS 1 2 rfl rfl (vp_in_nI (n := 2) (by decide) (by decide)) dX4_sendNext_54 (fun H locs hP hD hS => ?_)
  have hP : va_P (dC, dI) vwCl [(xa38, .inr (4, [.ref xa39, .ref xa40, .int 0])), (xa39, .inl (kJ, 23, .inr (.inl (vp_updL (vp_updL (vp_updL (vp_updL (vp_updL (vp_updL (vp_updL f1 5 ((f1 5) + ((f1 4) - (((f1 4) * 4) / 5)))) 4 (((f1 4) * 4) / 5)) 4 ((((f1 4) * 4) / 5) + ((f1 3) - (((f1 3) * 3) / 5)))) 3 (((f1 3) * 3) / 5)) 3 ((((f1 3) * 3) / 5) + ((f1 2) - (((f1 2) * 2) / 5)))) 2 (((f1 2) * 2) / 5)) 2 ((((f1 2) * 2) / 5) + ((f1 1) - (((f1 1) * 1) / 5)))))))] H := hP
  have hD : va_D A [(xa38, .inr (4, [.ref xa39, .ref xa40, .int 0])), (xa39, .inl (kJ, 23, .inr (.inl (vp_updL (vp_updL (vp_updL (vp_updL (vp_updL (vp_updL (vp_updL f1 5 ((f1 5) + ((f1 4) - (((f1 4) * 4) / 5)))) 4 (((f1 4) * 4) / 5)) 4 ((((f1 4) * 4) / 5) + ((f1 3) - (((f1 3) * 3) / 5)))) 3 (((f1 3) * 3) / 5)) 3 ((((f1 3) * 3) / 5) + ((f1 2) - (((f1 2) * 2) / 5)))) 2 (((f1 2) * 2) / 5)) 2 ((((f1 2) * 2) / 5) + ((f1 1) - (((f1 1) * 1) / 5)))))))] := hD
  refine lv_aload_n hx hb dX4_sendNext_55 rfl (lv_at hl 2 rfl) ?_
  refine va_get (D := (dC, dI)) (ci := 4) (v := .ref xa39) (C := RX4) (T := TX4) (N := 3) hx hb hts hin4 hown hK hP 0 rfl rfl 0 (by decide) (hts (.fieldLink RX4 9 "PathProber$Odds" "met" "[J") (List.mem_of_getElem? (i := 1) (by decide +kernel))) (fun _ h9 => h9) rfl dX4_sendNext_56 ?_
  refine lv_iload_n hx hb dX4_sendNext_59 rfl (lv_at hl 1 rfl) ?_
  refine lv_lload_n hx hb dX4_sendNext_60 rfl (lv_at hl 0 rfl) ?_
  refine va_last hx hb hK hP hD hS 1 2 rfl rfl (vp_in_nI (n := 1) (by decide) (by decide)) dX4_sendNext_61 (fun H locs hP hD hS => ?_)
  have hP : va_P (dC, dI) vwCl [(xa38, .inr (4, [.ref xa39, .ref xa40, .int 0])), (xa39, .inl (kJ, 23, .inr (.inl (vp_updL (vp_updL (vp_updL (vp_updL (vp_updL (vp_updL (vp_updL (vp_updL f1 5 ((f1 5) + ((f1 4) - (((f1 4) * 4) / 5)))) 4 (((f1 4) * 4) / 5)) 4 ((((f1 4) * 4) / 5) + ((f1 3) - (((f1 3) * 3) / 5)))) 3 (((f1 3) * 3) / 5)) 3 ((((f1 3) * 3) / 5) + ((f1 2) - (((f1 2) * 2) / 5)))) 2 (((f1 2) * 2) / 5)) 2 ((((f1 2) * 2) / 5) + ((f1 1) - (((f1 1) * 1) / 5)))) 1 (((f1 1) * 1) / 5)))))] H := hP
  have hD : va_D A [(xa38, .inr (4, [.ref xa39, .ref xa40, .int 0])), (xa39, .inl (kJ, 23, .inr (.inl (vp_updL (vp_updL (vp_updL (vp_updL (vp_updL (vp_updL (vp_updL (vp_updL f1 5 ((f1 5) + ((f1 4) - (((f1 4) * 4) / 5)))) 4 (((f1 4) * 4) / 5)) 4 ((((f1 4) * 4) / 5) + ((f1 3) - (((f1 3) * 3) / 5)))) 3 (((f1 3) * 3) / 5)) 3 ((((f1 3) * 3) / 5) + ((f1 2) - (((f1 2) * 2) / 5)))) 2 (((f1 2) * 2) / 5)) 2 ((((f1 2) * 2) / 5) + ((f1 1) - (((f1 1) * 1) / 5)))) 1 (((f1 1) * 1) / 5)))))] := hD
  refine lv_iinc (v := 0) (lv' := [(2, .int 0), (3, .long (((f1 1) * 1) / 5)), (0, .ref xa38), (1, .int 5)]) hx hb dX4_sendNext_62 hl (k := 1) rfl (by decide) (by decide) rfl (fun ls hl => ?_)
  refine lv_goto (tgt := 19) hx hb dX4_sendNext_65 (by decide) ?_
  refine lv_iload_n hx hb dX4_sendNext_19 rfl (lv_at hl 0 rfl) ?_
  refine lv_if_lt (tgt := 68) hx hb dX4_sendNext_20 (by decide) (fun c9 => absurd c9 (by decide)) (fun _ => ?_)
  refine lv_aload_n hx hb dX4_sendNext_23 rfl (lv_at hl 2 rfl) ?_
  refine va_get (D := (dC, dI)) (ci := 4) (v := .ref xa39) (C := RX4) (T := TX4) (N := 3) hx hb hts hin4 hown hK hP 0 rfl rfl 0 (by decide) (hts (.fieldLink RX4 9 "PathProber$Odds" "met" "[J") (List.mem_of_getElem? (i := 1) (by decide +kernel))) (fun _ h9 => h9) rfl dX4_sendNext_24 ?_
  refine lv_iload_n hx hb dX4_sendNext_27 rfl (lv_at hl 0 rfl) ?_
  refine va_lald hx hb hK hP 1 2 rfl rfl (vp_in_nI (n := 0) (by decide) (by decide)) dX4_sendNext_28 ?_
  refine lv_topl (fun z35 e36 => ?_)
  obtain rfl : z35 = (f1 0 : Int64) := e36
  refine lv_iload_n hx hb dX4_sendNext_29 rfl (lv_at hl 0 rfl) ?_
  refine lv_i2l (v := 0) hx hb dX4_sendNext_30 (by decide) ?_
  refine lv_lmul hx hb dX4_sendNext_31 ?_
  refine lv_iload_n hx hb dX4_sendNext_32 rfl (lv_at hl 3 rfl) ?_
  refine lv_i2l (v := 5) hx hb dX4_sendNext_33 (by decide) ?_
  refine lv_ldiv hx hb dX4_sendNext_34 (by decide) ?_
  refine lv_lstore_n (lv' := [(3, .long (((f1 0) * 0) / 5)), (2, .int 0), (0, .ref xa38), (1, .int 5)]) hx hb dX4_sendNext_35 rfl hl (by decide) rfl (fun ls hl => ?_)
  refine lv_aload_n hx hb dX4_sendNext_36 rfl (lv_at hl 2 rfl) ?_
  refine va_get (D := (dC, dI)) (ci := 4) (v := .ref xa39) (C := RX4) (T := TX4) (N := 3) hx hb hts hin4 hown hK hP 0 rfl rfl 0 (by decide) (hts (.fieldLink RX4 9 "PathProber$Odds" "met" "[J") (List.mem_of_getElem? (i := 1) (by decide +kernel))) (fun _ h9 => h9) rfl dX4_sendNext_37 ?_
  refine lv_iload_n hx hb dX4_sendNext_40 rfl (lv_at hl 1 rfl) ?_
  refine lv_iconst (v := 1) hx hb dX4_sendNext_41 (by decide) ?_
  refine lv_iadd hx hb dX4_sendNext_42 ?_
  refine lv_topi (fun z37 e38 => ?_)
  obtain rfl : z37 = (1 : Int32) := e38.trans (by decide)
  refine lv_dup2_11 hx hb dX4_sendNext_43 rfl rfl ?_
  refine va_lald hx hb hK hP 1 2 rfl rfl (vp_in_nI (n := 1) (by decide) (by decide)) dX4_sendNext_44 ?_
  refine lv_topl (fun z39 e40 => ?_)
  obtain rfl : z39 = (((f1 1) * 1) / 5 : Int64) := e40
  refine lv_aload_n hx hb dX4_sendNext_45 rfl (lv_at hl 2 rfl) ?_
  refine va_get (D := (dC, dI)) (ci := 4) (v := .ref xa39) (C := RX4) (T := TX4) (N := 3) hx hb hts hin4 hown hK hP 0 rfl rfl 0 (by decide) (hts (.fieldLink RX4 9 "PathProber$Odds" "met" "[J") (List.mem_of_getElem? (i := 1) (by decide +kernel))) (fun _ h9 => h9) rfl dX4_sendNext_46 ?_
  refine lv_iload_n hx hb dX4_sendNext_49 rfl (lv_at hl 1 rfl) ?_
  refine va_lald hx hb hK hP 1 2 rfl rfl (vp_in_nI (n := 0) (by decide) (by decide)) dX4_sendNext_50 ?_
  refine lv_topl (fun z41 e42 => ?_)
  obtain rfl : z41 = (f1 0 : Int64) := e42
  refine lv_lload_n hx hb dX4_sendNext_51 rfl (lv_at hl 0 rfl) ?_
  refine lv_lsub hx hb dX4_sendNext_52 ?_
  refine lv_ladd hx hb dX4_sendNext_53 ?_
  refine va_last hx hb hK hP hD hS 1 2 rfl rfl (vp_in_nI (n := 1) (by decide) (by decide)) dX4_sendNext_54 (fun H locs hP hD hS => ?_)
  have hP : va_P (dC, dI) vwCl [(xa38, .inr (4, [.ref xa39, .ref xa40, .int 0])), (xa39, .inl (kJ, 23, .inr (.inl (vp_updL (vp_updL (vp_updL (vp_updL (vp_updL (vp_updL (vp_updL (vp_updL (vp_updL f1 5 ((f1 5) + ((f1 4) - (((f1 4) * 4) / 5)))) 4 (((f1 4) * 4) / 5)) 4 ((((f1 4) * 4) / 5) + ((f1 3) - (((f1 3) * 3) / 5)))) 3 (((f1 3) * 3) / 5)) 3 ((((f1 3) * 3) / 5) + ((f1 2) - (((f1 2) * 2) / 5)))) 2 (((f1 2) * 2) / 5)) 2 ((((f1 2) * 2) / 5) + ((f1 1) - (((f1 1) * 1) / 5)))) 1 (((f1 1) * 1) / 5)) 1 ((((f1 1) * 1) / 5) + ((f1 0) - (((f1 0) * 0) / 5)))))))] H := hP
  have hD : va_D A [(xa38, .inr (4, [.ref xa39, .ref xa40, .int 0])), (xa39, .inl (kJ, 23, .inr (.inl (vp_updL (vp_updL (vp_updL (vp_updL (vp_updL (vp_updL (vp_updL (vp_updL (vp_updL f1 5 ((f1 5) + ((f1 4) - (((f1 4) * 4) / 5)))) 4 (((f1 4) * 4) / 5)) 4 ((((f1 4) * 4) / 5) + ((f1 3) - (((f1 3) * 3) / 5)))) 3 (((f1 3) * 3) / 5)) 3 ((((f1 3) * 3) / 5) + ((f1 2) - (((f1 2) * 2) / 5)))) 2 (((f1 2) * 2) / 5)) 2 ((((f1 2) * 2) / 5) + ((f1 1) - (((f1 1) * 1) / 5)))) 1 (((f1 1) * 1) / 5)) 1 ((((f1 1) * 1) / 5) + ((f1 0) - (((f1 0) * 0) / 5)))))))] := hD
  refine lv_aload_n hx hb dX4_sendNext_55 rfl (lv_at hl 2 rfl) ?_
  refine va_get (D := (dC, dI)) (ci := 4) (v := .ref xa39) (C := RX4) (T := TX4) (N := 3) hx hb hts hin4 hown hK hP 0 rfl rfl 0 (by decide) (hts (.fieldLink RX4 9 "PathProber$Odds" "met" "[J") (List.mem_of_getElem? (i := 1) (by decide +kernel))) (fun _ h9 => h9) rfl dX4_sendNext_56 ?_
  refine lv_iload_n hx hb dX4_sendNext_59 rfl (lv_at hl 1 rfl) ?_
  refine lv_lload_n hx hb dX4_sendNext_60 rfl (lv_at hl 0 rfl) ?_
  refine va_last hx hb hK hP hD hS 1 2 rfl rfl (vp_in_nI (n := 0) (by decide) (by decide)) dX4_sendNext_61 (fun H locs hP hD hS => ?_)
  have hP : va_P (dC, dI) vwCl [(xa38, .inr (4, [.ref xa39, .ref xa40, .int 0])), (xa39, .inl (kJ, 23, .inr (.inl (vp_updL (vp_updL (vp_updL (vp_updL (vp_updL (vp_updL (vp_updL (vp_updL (vp_updL (vp_updL f1 5 ((f1 5) + ((f1 4) - (((f1 4) * 4) / 5)))) 4 (((f1 4) * 4) / 5)) 4 ((((f1 4) * 4) / 5) + ((f1 3) - (((f1 3) * 3) / 5)))) 3 (((f1 3) * 3) / 5)) 3 ((((f1 3) * 3) / 5) + ((f1 2) - (((f1 2) * 2) / 5)))) 2 (((f1 2) * 2) / 5)) 2 ((((f1 2) * 2) / 5) + ((f1 1) - (((f1 1) * 1) / 5)))) 1 (((f1 1) * 1) / 5)) 1 ((((f1 1) * 1) / 5) + ((f1 0) - (((f1 0) * 0) / 5)))) 0 (((f1 0) * 0) / 5)))))] H := hP
  have hD : va_D A [(xa38, .inr (4, [.ref xa39, .ref xa40, .int 0])), (xa39, .inl (kJ, 23, .inr (.inl (vp_updL (vp_updL (vp_updL (vp_updL (vp_updL (vp_updL (vp_updL (vp_updL (vp_updL (vp_updL f1 5 ((f1 5) + ((f1 4) - (((f1 4) * 4) / 5)))) 4 (((f1 4) * 4) / 5)) 4 ((((f1 4) * 4) / 5) + ((f1 3) - (((f1 3) * 3) / 5)))) 3 (((f1 3) * 3) / 5)) 3 ((((f1 3) * 3) / 5) + ((f1 2) - (((f1 2) * 2) / 5)))) 2 (((f1 2) * 2) / 5)) 2 ((((f1 2) * 2) / 5) + ((f1 1) - (((f1 1) * 1) / 5)))) 1 (((f1 1) * 1) / 5)) 1 ((((f1 1) * 1) / 5) + ((f1 0) - (((f1 0) * 0) / 5)))) 0 (((f1 0) * 0) / 5)))))] := hD
  refine lv_iinc (v := (-1)) (lv' := [(2, .int (-1)), (3, .long (((f1 0) * 0) / 5)), (0, .ref xa38), (1, .int 5)]) hx hb dX4_sendNext_62 hl (k := 1) rfl (by decide) (by decide) rfl (fun ls hl => ?_)
  refine lv_goto (tgt := 19) hx hb dX4_sendNext_65 (by decide) ?_
  refine lv_iload_n hx hb dX4_sendNext_19 rfl (lv_at hl 0 rfl) ?_
  refine lv_if_lt (tgt := 68) hx hb dX4_sendNext_20 (by decide) (fun _ => ?_) (fun c9 => absurd (by decide) c9)
  have hP9 := hP.sub (ws' := [(xa38, .inr (4, [.ref xa39, .ref xa40, .int 0])), (xa39, .inl (kJ, 23, .inr (.inl (vp_updL (vp_updL (vp_updL (vp_updL (vp_updL (vp_updL (vp_updL (vp_updL (vp_updL (vp_updL f1 5 ((f1 5) + ((f1 4) - (((f1 4) * 4) / 5)))) 4 (((f1 4) * 4) / 5)) 4 ((((f1 4) * 4) / 5) + ((f1 3) - (((f1 3) * 3) / 5)))) 3 (((f1 3) * 3) / 5)) 3 ((((f1 3) * 3) / 5) + ((f1 2) - (((f1 2) * 2) / 5)))) 2 (((f1 2) * 2) / 5)) 2 ((((f1 2) * 2) / 5) + ((f1 1) - (((f1 1) * 1) / 5)))) 1 (((f1 1) * 1) / 5)) 1 ((((f1 1) * 1) / 5) + ((f1 0) - (((f1 0) * 0) / 5)))) 0 (((f1 0) * 0) / 5)))))]) [0, 1] rfl
  have hD9 := hD.sub (ws' := [(xa38, .inr (4, [.ref xa39, .ref xa40, .int 0])), (xa39, .inl (kJ, 23, .inr (.inl (vp_updL (vp_updL (vp_updL (vp_updL (vp_updL (vp_updL (vp_updL (vp_updL (vp_updL (vp_updL f1 5 ((f1 5) + ((f1 4) - (((f1 4) * 4) / 5)))) 4 (((f1 4) * 4) / 5)) 4 ((((f1 4) * 4) / 5) + ((f1 3) - (((f1 3) * 3) / 5)))) 3 (((f1 3) * 3) / 5)) 3 ((((f1 3) * 3) / 5) + ((f1 2) - (((f1 2) * 2) / 5)))) 2 (((f1 2) * 2) / 5)) 2 ((((f1 2) * 2) / 5) + ((f1 1) - (((f1 1) * 1) / 5)))) 1 (((f1 1) * 1) / 5)) 1 ((((f1 1) * 1) / 5) + ((f1 0) - (((f1 0) * 0) / 5)))) 0 (((f1 0) * 0) / 5)))))]) [0, 1] (by decide) rfl
  exact W.vret hx hb hr (fun t ht hW => ⟨⟨(), rfl, trivial, vp_updL (vp_updL (vp_updL (vp_updL (vp_updL (vp_updL (vp_updL (vp_updL (vp_updL (vp_updL f1 5 ((f1 5) + ((f1 4) - (((f1 4) * 4) / 5)))) 4 (((f1 4) * 4) / 5)) 4 ((((f1 4) * 4) / 5) + ((f1 3) - (((f1 3) * 3) / 5)))) 3 (((f1 3) * 3) / 5)) 3 ((((f1 3) * 3) / 5) + ((f1 2) - (((f1 2) * 2) / 5)))) 2 (((f1 2) * 2) / 5)) 2 ((((f1 2) * 2) / 5) + ((f1 1) - (((f1 1) * 1) / 5)))) 1 (((f1 1) * 1) / 5)) 1 ((((f1 1) * 1) / 5) + ((f1 0) - (((f1 0) * 0) / 5)))) 0 (((f1 0) * 0) / 5), rfl, rfl, rfl, rfl, rfl, rfl, by rw [ht]; exact hP9, hD9⟩, hS.F ht⟩) hS.2.2 dX4_sendNext_68
def rm_k4_missed_1 : Room := { frames := 1, cells := 0, slots := 0, locals := 24 }
set_option maxHeartbeats 4000000 in
set_option maxRecDepth 100000 in
theorem k4_missed_1 (l : Launch) (dC : Nat → ClassId) (dI : Nat → Nat → Nat) (kB kI kJ kZ kC kS : ClassId) (sz : Nat) (xa38 : Nat) (xa39 : Nat) (xa40 : Nat) (k : Nat) (f1 : Nat → Int64) (hk : k ≤ 60) : Met l yX4_missed wsX4_missed rm_k4_missed_1 (va_Pc [.ref xa38, .int (nI k), .int 1] (fun U => U.heap.size = sz ∧ va_P (dC, dI) vwCl [(xa38, .inr (4, [.ref xa39, .ref xa40, .int 0])), (xa39, .inl (kJ, 23, .inr (.inl f1)))] U.heap ∧ kE dC dI kB kI kJ kZ kC kS U ∧ va_D (fun _ => True) [(xa38, .inr (4, [.ref xa39, .ref xa40, .int 0])), (xa39, .inl (kJ, 23, .inr (.inl f1)))])) (va_Ql (fun (r : Int64) (_ : Unit) => r = 1000000000000 - kv1 k 1) (fun _ t => va_P (dC, dI) vwCl [] t.heap ∧ va_D (va_A [(xa38, .inr (4, [.ref xa39, .ref xa40, .int 0])), (xa39, .inl (kJ, 23, .inr (.inl f1)))] sz) []) (va_A [(xa38, .inr (4, [.ref xa39, .ref xa40, .int 0])), (xa39, .inl (kJ, 23, .inr (.inl f1)))] sz)) 0 0 (va_A [(xa38, .inr (4, [.ref xa39, .ref xa40, .int 0])), (xa39, .inl (kJ, 23, .inr (.inl f1)))] sz) := by
  refine Met.ofW (cc := cX4_missed) (maxL := 4) (ret := (some .long)) (by decide) rfl ?_
  intro p e s m args0 below meth c s₁ B hml hv
  obtain ⟨hargs, hsz, hP, hE, hD0⟩ := hv
  have hx := B.exec
  have hb := B.bytes
  have hr := B.returns
  have hts := atoms_spec (ws := wsX4_missed) B.pre
  have hown : s.vm.findClass RX4 = some m.cls := findClass_of_methodNamed B.named
  have hlocks := B.notSynchronized
  have hK := hE.1
  have hin4 : ∀ w ∈ wsX40, w ∈ wsX4_missed := fun _ h9 => List.mem_cons_of_mem _ (List.mem_append_right _ h9)
  subst hsz
  have hD := hD0.self (sz := s.heap.size)
  generalize hAe : va_A [(xa38, .inr (4, [.ref xa39, .ref xa40, .int 0])), (xa39, .inl (kJ, 23, .inr (.inl f1)))] s.heap.size = A at hD ⊢
  have hA : ∀ q : Nat, s.heap.size ≤ q → A q := fun q h => by rw [← hAe]; exact Or.inr h
  have hS : va_S A s.heap s.heap [] := va_S.rf
  have hP : va_P (dC, dI) vwCl [(xa38, .inr (4, [.ref xa39, .ref xa40, .int 0])), (xa39, .inl (kJ, 23, .inr (.inl f1)))] s.heap := hP
  have hl := lv_entry ([.ref xa38, .int (nI k), .int 1]) (n := 4) (Nat.le_of_ble_eq_true rfl)
  have hla : entryFrame m args0 4 = entryFrame m ([.ref xa38, .int (nI k), .int 1] : List Value).toArray 4 := by rw [hargs]
  rw [hla, lg_entry_eq]
  generalize (lg_sl ([.ref xa38, .int (nI k), .int 1]) ++ List.replicate (4 - (lg_sl ([.ref xa38, .int (nI k), .int 1])).length) Slot.unset).toArray = ls at hl ⊢
  have hl : lv_has ls 4 [(0, .ref xa38), (1, .int (nI k)), (2, .int 1)] := hl
  refine lv_iload_n hx hb dX4_missed_0 rfl (lv_at hl 2 rfl) ?_
  refine lv_iconst (v := 1) hx hb dX4_missed_1 (by decide) ?_
  refine lv_icmp_lt (tgt := 14) hx hb dX4_missed_2 (by decide) (fun c9 => absurd c9 (by decide)) (fun _ => ?_)
  refine lv_iload_n hx hb dX4_missed_5 rfl (lv_at hl 2 rfl) ?_
  refine lv_aload_n hx hb dX4_missed_6 rfl (lv_at hl 0 rfl) ?_
  refine va_get (D := (dC, dI)) (ci := 4) (v := .ref xa39) (C := RX4) (T := TX4) (N := 3) hx hb hts hin4 hown hK hP 0 rfl rfl 0 (by decide) (hts (.fieldLink RX4 9 "PathProber$Odds" "met" "[J") (List.mem_of_getElem? (i := 1) (by decide +kernel))) (fun _ h9 => h9) rfl dX4_missed_7 ?_
  refine va_alen (v := 23) hx hb hK hP 1 2 rfl rfl rfl dX4_missed_10 ?_
  refine lv_icmp_lt (tgt := 18) hx hb dX4_missed_11 (by decide) (fun _ => ?_) (fun c9 => absurd (by decide) c9)
  refine lv_aload_n hx hb dX4_missed_18 rfl (lv_at hl 0 rfl) ?_
  refine lv_iload_n hx hb dX4_missed_19 rfl (lv_at hl 2 rfl) ?_
  have hPc := hP.sub (ws' := [(xa38, .inr (4, [.ref xa39, .ref xa40, .int 0])), (xa39, .inl (kJ, 23, .inr (.inl f1)))]) [0, 1] rfl
  have hDc := hD.sub (ws' := [(xa38, .inr (4, [.ref xa39, .ref xa40, .int 0])), (xa39, .inl (kJ, 23, .inr (.inl f1)))]) [0, 1] (by decide) rfl
  have hFc := va_free (wc := [(xa38, .inr (4, [.ref xa39, .ref xa40, .int 0])), (xa39, .inl (kJ, 23, .inr (.inl f1)))]) hD hS hA [0, 1] rfl
  refine va_callv (va_runV (As := [.int 1]) (rest := []) ⟨hx, hb, hml, hown, hts⟩ (k4_begin_1 l dC dI kB kI kJ kZ kC kS s.heap.size xa38 xa39 xa40 f1) (cwV 1 hts gX4_missed_X4_begin rfl rfl rfl (by decide +kernel) ⟨Nat.le_of_ble_eq_true rfl, Nat.le_of_ble_eq_true rfl⟩) ⟨fun a U g mk q => by obtain ⟨q0, q1, qP, qE, qD⟩ := q; exact ⟨q0, q1, qP, kE_call qE, qD⟩, va_recv hK hP (ci := 4) (q0 := 0) rfl rfl, fun U hU hW => ⟨rfl, by rw [hU], by rw [hU]; exact hPc, kE_warm hW hE, hDc.weaken (fun _ _ _ _ => trivial)⟩⟩ rfl rfl hl.1 rfl (lv_room (Nat.le_of_ble_eq_true rfl)) dX4_missed_20 ⟨Nat.le_of_ble_eq_true rfl, Nat.le_of_ble_eq_true rfl⟩) hS (fun q _ h => hFc q h) hFc (fun u t H1 locs ht hvm w2 hB hz1 hk1 hS => ?_)
  obtain ⟨g_3, f4, f5, hP1, hD1⟩ := hB
  rw [ht] at hP1
  try dsimp only at w2
  obtain ⟨hP, hD⟩ := va_join (wr := []) (w1 := [(xa38, .inr (4, [.ref xa39, .ref xa40, .int 0])), (xa39, .inl (kJ, 23, .inr (.inl g_3)))]) hP hD [0, 1] [] rfl rfl (by decide) (by decide) hk1 hFc hP1 hD1
  generalize H1 = H at hP hS ⊢
  have hP : va_P (dC, dI) vwCl [(xa38, .inr (4, [.ref xa39, .ref xa40, .int 0])), (xa39, .inl (kJ, 23, .inr (.inl g_3)))] H := hP
  have hD : va_D A [(xa38, .inr (4, [.ref xa39, .ref xa40, .int 0])), (xa39, .inl (kJ, 23, .inr (.inl g_3)))] := hD
  refine W.widen (k := 0) (n := 0) (Nat.le_of_ble_eq_true rfl) (Nat.le_of_ble_eq_true rfl) ?_
  refine lv_iconst (v := 0) hx hb dX4_missed_23 (by decide) ?_
  refine lv_istore_n (lv' := [(3, .int 0), (0, .ref xa38), (1, .int (nI k)), (2, .int 1)]) hx hb dX4_missed_24 rfl hl (by decide) rfl (fun ls hl => ?_)
  have hloop25 : ∀ (n : Nat) (i : Nat) (fa : Nat → Int64) (H : Heap) (locs : List Loc) (ls : Array Slot), i + n = k → fa 0 = kv1 i 0 → fa 1 = kv1 i 1 → va_P (dC, dI) vwCl [(xa38, .inr (4, [.ref xa39, .ref xa40, .int 0])), (xa39, .inl (kJ, 23, .inr (.inl fa)))] H → va_D A [(xa38, .inr (4, [.ref xa39, .ref xa40, .int 0])), (xa39, .inl (kJ, 23, .inr (.inl fa)))] → va_S A s.heap H locs → lv_has ls 4 [(3, .int (nI i)), (0, .ref xa38), (1, .int (nI k)), (2, .int 1)] → W p l e (headSpec wsX4_missed rm_k4_missed_1).room s m args0 below meth c H locs 0 0 (MQ below (va_Ql (fun (r : Int64) (_ : Unit) => r = 1000000000000 - kv1 k 1) (fun _ t => va_P (dC, dI) vwCl [] t.heap ∧ va_D A []) A) args0 s 0 0 A) (F0 m 25 ls []) := by
    intro n
    induction n with
    | zero =>
      intro i fa H locs ls hi hf0 hf1 hP hD hS hl
      refine lv_iload_n hx hb dX4_missed_25 rfl (lv_at hl 0 rfl) ?_
      refine lv_iload_n hx hb dX4_missed_26 rfl (lv_at hl 2 rfl) ?_
      refine lv_icmp_ge (tgt := 54) hx hb dX4_missed_27 (by decide) (fun _ => ?_) (fun c9 => absurd (nI_le (by omega) (by omega)) c9)
      refine lv_ldc2 hx hb hown (hts (.constantLong RX4 23 (1000000000000)) (List.mem_of_getElem? (i := 2) (by decide +kernel))) dX4_missed_54 ?_
      refine lv_aload_n hx hb dX4_missed_57 rfl (lv_at hl 1 rfl) ?_
      refine va_get (D := (dC, dI)) (ci := 4) (v := .ref xa39) (C := RX4) (T := TX4) (N := 3) hx hb hts hin4 hown hK hP 0 rfl rfl 0 (by decide) (hts (.fieldLink RX4 9 "PathProber$Odds" "met" "[J") (List.mem_of_getElem? (i := 1) (by decide +kernel))) (fun _ h9 => h9) rfl dX4_missed_58 ?_
      refine lv_iload_n hx hb dX4_missed_61 rfl (lv_at hl 3 rfl) ?_
      refine va_lald hx hb hK hP 1 2 rfl rfl (vp_in_nI (n := 1) (by decide) (by decide)) dX4_missed_62 ?_
      refine lv_topl (fun z6 e7 => ?_)
      obtain rfl : z6 = (fa 1 : Int64) := e7
      refine lv_lsub hx hb dX4_missed_63 ?_
      have hP9 := hP.sub (ws' := []) [] rfl
      have hD9 := hD.sub (ws' := []) [] (by decide) rfl
      exact W.lret (v := 1000000000000 - (fa 1)) hx hb hr (fun t ht hW => ⟨⟨1000000000000 - (fa 1), (), rfl, by have h9 : i = k := (by omega); subst h9; rw [hf1], by rw [ht]; exact hP9, hD9⟩, hS.F ht⟩) hS.2.2 dX4_missed_64
    | succ n ih =>
      intro i fa H locs ls hi hf0 hf1 hP hD hS hl
      refine lv_iload_n hx hb dX4_missed_25 rfl (lv_at hl 0 rfl) ?_
      refine lv_iload_n hx hb dX4_missed_26 rfl (lv_at hl 2 rfl) ?_
      refine lv_icmp_ge (tgt := 54) hx hb dX4_missed_27 (by decide) (fun c9 => absurd c9 (nI_ge (by omega) (by omega))) (fun _ => ?_)
      refine lv_aload_n hx hb dX4_missed_30 rfl (lv_at hl 1 rfl) ?_
      refine va_get (D := (dC, dI)) (ci := 4) (v := .ref xa39) (C := RX4) (T := TX4) (N := 3) hx hb hts hin4 hown hK hP 0 rfl rfl 0 (by decide) (hts (.fieldLink RX4 9 "PathProber$Odds" "met" "[J") (List.mem_of_getElem? (i := 1) (by decide +kernel))) (fun _ h9 => h9) rfl dX4_missed_31 ?_
      refine lv_iload_n hx hb dX4_missed_34 rfl (lv_at hl 3 rfl) ?_
      refine va_lald hx hb hK hP 1 2 rfl rfl (vp_in_nI (n := 1) (by decide) (by decide)) dX4_missed_35 ?_
      refine lv_topl (fun z8 e9 => ?_)
      obtain rfl : z8 = (fa 1 : Int64) := e9
      refine lv_ldc2 hx hb hown (hts (.constantLong RX4 23 (1000000000000)) (List.mem_of_getElem? (i := 2) (by decide +kernel))) dX4_missed_36 ?_
      refine W.lcmp hx hb dX4_missed_39 ?_
      refine lv_if_ge (tgt := 54) hx hb dX4_missed_40 (by decide) (fun c10 => ?_) (fun c10 => ?_)
      · refine lv_ldc2 hx hb hown (hts (.constantLong RX4 23 (1000000000000)) (List.mem_of_getElem? (i := 2) (by decide +kernel))) dX4_missed_54 ?_
        refine lv_aload_n hx hb dX4_missed_57 rfl (lv_at hl 1 rfl) ?_
        refine va_get (D := (dC, dI)) (ci := 4) (v := .ref xa39) (C := RX4) (T := TX4) (N := 3) hx hb hts hin4 hown hK hP 0 rfl rfl 0 (by decide) (hts (.fieldLink RX4 9 "PathProber$Odds" "met" "[J") (List.mem_of_getElem? (i := 1) (by decide +kernel))) (fun _ h9 => h9) rfl dX4_missed_58 ?_
        refine lv_iload_n hx hb dX4_missed_61 rfl (lv_at hl 3 rfl) ?_
        refine va_lald hx hb hK hP 1 2 rfl rfl (vp_in_nI (n := 1) (by decide) (by decide)) dX4_missed_62 ?_
        refine lv_topl (fun z11 e12 => ?_)
        obtain rfl : z11 = (fa 1 : Int64) := e12
        refine lv_lsub hx hb dX4_missed_63 ?_
        have hP9 := hP.sub (ws' := []) [] rfl
        have hD9 := hD.sub (ws' := []) [] (by decide) rfl
        exact W.lret (v := 1000000000000 - (fa 1)) hx hb hr (fun t ht hW => ⟨⟨1000000000000 - (fa 1), (), rfl, by have h9 := kn_cmp c10; rw [hf1] at h9; have h8 := kvq1 h9 (k - i) (by omega); rw [show i + (k - i) = k by omega] at h8; rw [hf1, h8], by rw [ht]; exact hP9, hD9⟩, hS.F ht⟩) hS.2.2 dX4_missed_64
      · refine lv_aload_n hx hb dX4_missed_43 rfl (lv_at hl 1 rfl) ?_
        refine lv_iload_n hx hb dX4_missed_44 rfl (lv_at hl 3 rfl) ?_
        have hPc := hP.sub (ws' := [(xa38, .inr (4, [.ref xa39, .ref xa40, .int 0])), (xa39, .inl (kJ, 23, .inr (.inl fa)))]) [0, 1] rfl
        have hDc := hD.sub (ws' := [(xa38, .inr (4, [.ref xa39, .ref xa40, .int 0])), (xa39, .inl (kJ, 23, .inr (.inl fa)))]) [0, 1] (by decide) rfl
        have hFc := va_free (wc := [(xa38, .inr (4, [.ref xa39, .ref xa40, .int 0])), (xa39, .inl (kJ, 23, .inr (.inl fa)))]) hD hS hA [0, 1] rfl
        refine va_callv (va_runV (As := [.int 1]) (rest := []) ⟨hx, hb, hml, hown, hts⟩ (k4_sendNext_1 l dC dI kB kI kJ kZ kC kS H.size xa38 xa39 xa40 fa) (cwV 1 hts gX4_missed_X4_sendNext rfl rfl rfl (by decide +kernel) ⟨Nat.le_of_ble_eq_true rfl, Nat.le_of_ble_eq_true rfl⟩) ⟨fun a U g mk q => by obtain ⟨q0, q1, qP, qE, qD⟩ := q; exact ⟨q0, q1, qP, kE_call qE, qD⟩, va_recv hK hP (ci := 4) (q0 := 0) rfl rfl, fun U hU hW => ⟨rfl, by rw [hU], by rw [hU]; exact hPc, kE_warm hW hE, hDc.weaken (fun _ _ _ _ => trivial)⟩⟩ rfl rfl hl.1 rfl (lv_room (Nat.le_of_ble_eq_true rfl)) dX4_missed_45 ⟨Nat.le_of_ble_eq_true rfl, Nat.le_of_ble_eq_true rfl⟩) hS (fun q _ h => hFc q h) hFc (fun u t H1 locs ht hvm w14 hB hz1 hk1 hS => ?_)
        obtain ⟨g_15, f16, f17, hP1, hD1⟩ := hB
        rw [ht] at hP1
        try dsimp only at w14
        obtain ⟨hP, hD⟩ := va_join (wr := []) (w1 := [(xa38, .inr (4, [.ref xa39, .ref xa40, .int 0])), (xa39, .inl (kJ, 23, .inr (.inl g_15)))]) hP hD [0, 1] [] rfl rfl (by decide) (by decide) hk1 hFc hP1 hD1
        generalize H1 = H at hP hS ⊢
        have hP : va_P (dC, dI) vwCl [(xa38, .inr (4, [.ref xa39, .ref xa40, .int 0])), (xa39, .inl (kJ, 23, .inr (.inl g_15)))] H := hP
        have hD : va_D A [(xa38, .inr (4, [.ref xa39, .ref xa40, .int 0])), (xa39, .inl (kJ, 23, .inr (.inl g_15)))] := hD
        refine W.widen (k := 0) (n := 0) (Nat.le_of_ble_eq_true rfl) (Nat.le_of_ble_eq_true rfl) ?_
        refine lv_iinc (v := nI (i + 1)) (lv' := [(3, .int (nI (i + 1))), (0, .ref xa38), (1, .int (nI k)), (2, .int 1)]) hx hb dX4_missed_48 hl (k := 0) rfl (nI_1 i) (by decide) rfl (fun ls hl => ?_)
        refine lv_goto (tgt := 25) hx hb dX4_missed_51 (by decide) ?_
        exact ih (i + 1) g_15 _ _ _ (by omega) (by rw [f16, hf0]; exact kvs1_0 i (by omega)) (by rw [f17, hf0, hf1]; exact kvs1_1 i (by omega)) (hP.sub [0, 1] rfl) (hD.sub [0, 1] (by decide) rfl) hS (lv_sub hl [0, 1, 2, 3] rfl)
  exact hloop25 k 0 g_3 _ _ _ (Nat.zero_add _) (f4) (f5) hP hD hS (lv_sub hl [0, 1, 2, 3] rfl)
def rm_k4_missed_2 : Room := { frames := 1, cells := 0, slots := 0, locals := 24 }
set_option maxHeartbeats 4000000 in
set_option maxRecDepth 100000 in
theorem k4_missed_2 (l : Launch) (dC : Nat → ClassId) (dI : Nat → Nat → Nat) (kB kI kJ kZ kC kS : ClassId) (sz : Nat) (xa38 : Nat) (xa39 : Nat) (xa40 : Nat) (k : Nat) (f1 : Nat → Int64) (hk : k ≤ 60) : Met l yX4_missed wsX4_missed rm_k4_missed_2 (va_Pc [.ref xa38, .int (nI k), .int 2] (fun U => U.heap.size = sz ∧ va_P (dC, dI) vwCl [(xa38, .inr (4, [.ref xa39, .ref xa40, .int 0])), (xa39, .inl (kJ, 23, .inr (.inl f1)))] U.heap ∧ kE dC dI kB kI kJ kZ kC kS U ∧ va_D (fun _ => True) [(xa38, .inr (4, [.ref xa39, .ref xa40, .int 0])), (xa39, .inl (kJ, 23, .inr (.inl f1)))])) (va_Ql (fun (r : Int64) (_ : Unit) => r = 1000000000000 - kv2 k 2) (fun _ t => va_P (dC, dI) vwCl [] t.heap ∧ va_D (va_A [(xa38, .inr (4, [.ref xa39, .ref xa40, .int 0])), (xa39, .inl (kJ, 23, .inr (.inl f1)))] sz) []) (va_A [(xa38, .inr (4, [.ref xa39, .ref xa40, .int 0])), (xa39, .inl (kJ, 23, .inr (.inl f1)))] sz)) 0 0 (va_A [(xa38, .inr (4, [.ref xa39, .ref xa40, .int 0])), (xa39, .inl (kJ, 23, .inr (.inl f1)))] sz) := by
  refine Met.ofW (cc := cX4_missed) (maxL := 4) (ret := (some .long)) (by decide) rfl ?_
  intro p e s m args0 below meth c s₁ B hml hv
  obtain ⟨hargs, hsz, hP, hE, hD0⟩ := hv
  have hx := B.exec
  have hb := B.bytes
  have hr := B.returns
  have hts := atoms_spec (ws := wsX4_missed) B.pre
  have hown : s.vm.findClass RX4 = some m.cls := findClass_of_methodNamed B.named
  have hlocks := B.notSynchronized
  have hK := hE.1
  have hin4 : ∀ w ∈ wsX40, w ∈ wsX4_missed := fun _ h9 => List.mem_cons_of_mem _ (List.mem_append_right _ h9)
  subst hsz
  have hD := hD0.self (sz := s.heap.size)
  generalize hAe : va_A [(xa38, .inr (4, [.ref xa39, .ref xa40, .int 0])), (xa39, .inl (kJ, 23, .inr (.inl f1)))] s.heap.size = A at hD ⊢
  have hA : ∀ q : Nat, s.heap.size ≤ q → A q := fun q h => by rw [← hAe]; exact Or.inr h
  have hS : va_S A s.heap s.heap [] := va_S.rf
  have hP : va_P (dC, dI) vwCl [(xa38, .inr (4, [.ref xa39, .ref xa40, .int 0])), (xa39, .inl (kJ, 23, .inr (.inl f1)))] s.heap := hP
  have hl := lv_entry ([.ref xa38, .int (nI k), .int 2]) (n := 4) (Nat.le_of_ble_eq_true rfl)
  have hla : entryFrame m args0 4 = entryFrame m ([.ref xa38, .int (nI k), .int 2] : List Value).toArray 4 := by rw [hargs]
  rw [hla, lg_entry_eq]
  generalize (lg_sl ([.ref xa38, .int (nI k), .int 2]) ++ List.replicate (4 - (lg_sl ([.ref xa38, .int (nI k), .int 2])).length) Slot.unset).toArray = ls at hl ⊢
  have hl : lv_has ls 4 [(0, .ref xa38), (1, .int (nI k)), (2, .int 2)] := hl
  refine lv_iload_n hx hb dX4_missed_0 rfl (lv_at hl 2 rfl) ?_
  refine lv_iconst (v := 1) hx hb dX4_missed_1 (by decide) ?_
  refine lv_icmp_lt (tgt := 14) hx hb dX4_missed_2 (by decide) (fun c9 => absurd c9 (by decide)) (fun _ => ?_)
  refine lv_iload_n hx hb dX4_missed_5 rfl (lv_at hl 2 rfl) ?_
  refine lv_aload_n hx hb dX4_missed_6 rfl (lv_at hl 0 rfl) ?_
  refine va_get (D := (dC, dI)) (ci := 4) (v := .ref xa39) (C := RX4) (T := TX4) (N := 3) hx hb hts hin4 hown hK hP 0 rfl rfl 0 (by decide) (hts (.fieldLink RX4 9 "PathProber$Odds" "met" "[J") (List.mem_of_getElem? (i := 1) (by decide +kernel))) (fun _ h9 => h9) rfl dX4_missed_7 ?_
  refine va_alen (v := 23) hx hb hK hP 1 2 rfl rfl rfl dX4_missed_10 ?_
  refine lv_icmp_lt (tgt := 18) hx hb dX4_missed_11 (by decide) (fun _ => ?_) (fun c9 => absurd (by decide) c9)
  refine lv_aload_n hx hb dX4_missed_18 rfl (lv_at hl 0 rfl) ?_
  refine lv_iload_n hx hb dX4_missed_19 rfl (lv_at hl 2 rfl) ?_
  have hPc := hP.sub (ws' := [(xa38, .inr (4, [.ref xa39, .ref xa40, .int 0])), (xa39, .inl (kJ, 23, .inr (.inl f1)))]) [0, 1] rfl
  have hDc := hD.sub (ws' := [(xa38, .inr (4, [.ref xa39, .ref xa40, .int 0])), (xa39, .inl (kJ, 23, .inr (.inl f1)))]) [0, 1] (by decide) rfl
  have hFc := va_free (wc := [(xa38, .inr (4, [.ref xa39, .ref xa40, .int 0])), (xa39, .inl (kJ, 23, .inr (.inl f1)))]) hD hS hA [0, 1] rfl
  refine va_callv (va_runV (As := [.int 2]) (rest := []) ⟨hx, hb, hml, hown, hts⟩ (k4_begin_2 l dC dI kB kI kJ kZ kC kS s.heap.size xa38 xa39 xa40 f1) (cwV 1 hts gX4_missed_X4_begin rfl rfl rfl (by decide +kernel) ⟨Nat.le_of_ble_eq_true rfl, Nat.le_of_ble_eq_true rfl⟩) ⟨fun a U g mk q => by obtain ⟨q0, q1, qP, qE, qD⟩ := q; exact ⟨q0, q1, qP, kE_call qE, qD⟩, va_recv hK hP (ci := 4) (q0 := 0) rfl rfl, fun U hU hW => ⟨rfl, by rw [hU], by rw [hU]; exact hPc, kE_warm hW hE, hDc.weaken (fun _ _ _ _ => trivial)⟩⟩ rfl rfl hl.1 rfl (lv_room (Nat.le_of_ble_eq_true rfl)) dX4_missed_20 ⟨Nat.le_of_ble_eq_true rfl, Nat.le_of_ble_eq_true rfl⟩) hS (fun q _ h => hFc q h) hFc (fun u t H1 locs ht hvm w2 hB hz1 hk1 hS => ?_)
  obtain ⟨g_3, f4, f5, f6, hP1, hD1⟩ := hB
  rw [ht] at hP1
  try dsimp only at w2
  obtain ⟨hP, hD⟩ := va_join (wr := []) (w1 := [(xa38, .inr (4, [.ref xa39, .ref xa40, .int 0])), (xa39, .inl (kJ, 23, .inr (.inl g_3)))]) hP hD [0, 1] [] rfl rfl (by decide) (by decide) hk1 hFc hP1 hD1
  generalize H1 = H at hP hS ⊢
  have hP : va_P (dC, dI) vwCl [(xa38, .inr (4, [.ref xa39, .ref xa40, .int 0])), (xa39, .inl (kJ, 23, .inr (.inl g_3)))] H := hP
  have hD : va_D A [(xa38, .inr (4, [.ref xa39, .ref xa40, .int 0])), (xa39, .inl (kJ, 23, .inr (.inl g_3)))] := hD
  refine W.widen (k := 0) (n := 0) (Nat.le_of_ble_eq_true rfl) (Nat.le_of_ble_eq_true rfl) ?_
  refine lv_iconst (v := 0) hx hb dX4_missed_23 (by decide) ?_
  refine lv_istore_n (lv' := [(3, .int 0), (0, .ref xa38), (1, .int (nI k)), (2, .int 2)]) hx hb dX4_missed_24 rfl hl (by decide) rfl (fun ls hl => ?_)
  have hloop25 : ∀ (n : Nat) (i : Nat) (fa : Nat → Int64) (H : Heap) (locs : List Loc) (ls : Array Slot), i + n = k → fa 0 = kv2 i 0 → fa 1 = kv2 i 1 → fa 2 = kv2 i 2 → va_P (dC, dI) vwCl [(xa38, .inr (4, [.ref xa39, .ref xa40, .int 0])), (xa39, .inl (kJ, 23, .inr (.inl fa)))] H → va_D A [(xa38, .inr (4, [.ref xa39, .ref xa40, .int 0])), (xa39, .inl (kJ, 23, .inr (.inl fa)))] → va_S A s.heap H locs → lv_has ls 4 [(3, .int (nI i)), (0, .ref xa38), (1, .int (nI k)), (2, .int 2)] → W p l e (headSpec wsX4_missed rm_k4_missed_2).room s m args0 below meth c H locs 0 0 (MQ below (va_Ql (fun (r : Int64) (_ : Unit) => r = 1000000000000 - kv2 k 2) (fun _ t => va_P (dC, dI) vwCl [] t.heap ∧ va_D A []) A) args0 s 0 0 A) (F0 m 25 ls []) := by
    intro n
    induction n with
    | zero =>
      intro i fa H locs ls hi hf0 hf1 hf2 hP hD hS hl
      refine lv_iload_n hx hb dX4_missed_25 rfl (lv_at hl 0 rfl) ?_
      refine lv_iload_n hx hb dX4_missed_26 rfl (lv_at hl 2 rfl) ?_
      refine lv_icmp_ge (tgt := 54) hx hb dX4_missed_27 (by decide) (fun _ => ?_) (fun c9 => absurd (nI_le (by omega) (by omega)) c9)
      refine lv_ldc2 hx hb hown (hts (.constantLong RX4 23 (1000000000000)) (List.mem_of_getElem? (i := 2) (by decide +kernel))) dX4_missed_54 ?_
      refine lv_aload_n hx hb dX4_missed_57 rfl (lv_at hl 1 rfl) ?_
      refine va_get (D := (dC, dI)) (ci := 4) (v := .ref xa39) (C := RX4) (T := TX4) (N := 3) hx hb hts hin4 hown hK hP 0 rfl rfl 0 (by decide) (hts (.fieldLink RX4 9 "PathProber$Odds" "met" "[J") (List.mem_of_getElem? (i := 1) (by decide +kernel))) (fun _ h9 => h9) rfl dX4_missed_58 ?_
      refine lv_iload_n hx hb dX4_missed_61 rfl (lv_at hl 3 rfl) ?_
      refine va_lald hx hb hK hP 1 2 rfl rfl (vp_in_nI (n := 2) (by decide) (by decide)) dX4_missed_62 ?_
      refine lv_topl (fun z7 e8 => ?_)
      obtain rfl : z7 = (fa 2 : Int64) := e8
      refine lv_lsub hx hb dX4_missed_63 ?_
      have hP9 := hP.sub (ws' := []) [] rfl
      have hD9 := hD.sub (ws' := []) [] (by decide) rfl
      exact W.lret (v := 1000000000000 - (fa 2)) hx hb hr (fun t ht hW => ⟨⟨1000000000000 - (fa 2), (), rfl, by have h9 : i = k := (by omega); subst h9; rw [hf2], by rw [ht]; exact hP9, hD9⟩, hS.F ht⟩) hS.2.2 dX4_missed_64
    | succ n ih =>
      intro i fa H locs ls hi hf0 hf1 hf2 hP hD hS hl
      refine lv_iload_n hx hb dX4_missed_25 rfl (lv_at hl 0 rfl) ?_
      refine lv_iload_n hx hb dX4_missed_26 rfl (lv_at hl 2 rfl) ?_
      refine lv_icmp_ge (tgt := 54) hx hb dX4_missed_27 (by decide) (fun c9 => absurd c9 (nI_ge (by omega) (by omega))) (fun _ => ?_)
      refine lv_aload_n hx hb dX4_missed_30 rfl (lv_at hl 1 rfl) ?_
      refine va_get (D := (dC, dI)) (ci := 4) (v := .ref xa39) (C := RX4) (T := TX4) (N := 3) hx hb hts hin4 hown hK hP 0 rfl rfl 0 (by decide) (hts (.fieldLink RX4 9 "PathProber$Odds" "met" "[J") (List.mem_of_getElem? (i := 1) (by decide +kernel))) (fun _ h9 => h9) rfl dX4_missed_31 ?_
      refine lv_iload_n hx hb dX4_missed_34 rfl (lv_at hl 3 rfl) ?_
      refine va_lald hx hb hK hP 1 2 rfl rfl (vp_in_nI (n := 2) (by decide) (by decide)) dX4_missed_35 ?_
      refine lv_topl (fun z9 e10 => ?_)
      obtain rfl : z9 = (fa 2 : Int64) := e10
      refine lv_ldc2 hx hb hown (hts (.constantLong RX4 23 (1000000000000)) (List.mem_of_getElem? (i := 2) (by decide +kernel))) dX4_missed_36 ?_
      refine W.lcmp hx hb dX4_missed_39 ?_
      refine lv_if_ge (tgt := 54) hx hb dX4_missed_40 (by decide) (fun c11 => ?_) (fun c11 => ?_)
      · refine lv_ldc2 hx hb hown (hts (.constantLong RX4 23 (1000000000000)) (List.mem_of_getElem? (i := 2) (by decide +kernel))) dX4_missed_54 ?_
        refine lv_aload_n hx hb dX4_missed_57 rfl (lv_at hl 1 rfl) ?_
        refine va_get (D := (dC, dI)) (ci := 4) (v := .ref xa39) (C := RX4) (T := TX4) (N := 3) hx hb hts hin4 hown hK hP 0 rfl rfl 0 (by decide) (hts (.fieldLink RX4 9 "PathProber$Odds" "met" "[J") (List.mem_of_getElem? (i := 1) (by decide +kernel))) (fun _ h9 => h9) rfl dX4_missed_58 ?_
        refine lv_iload_n hx hb dX4_missed_61 rfl (lv_at hl 3 rfl) ?_
        refine va_lald hx hb hK hP 1 2 rfl rfl (vp_in_nI (n := 2) (by decide) (by decide)) dX4_missed_62 ?_
        refine lv_topl (fun z12 e13 => ?_)
        obtain rfl : z12 = (fa 2 : Int64) := e13
        refine lv_lsub hx hb dX4_missed_63 ?_
        have hP9 := hP.sub (ws' := []) [] rfl
        have hD9 := hD.sub (ws' := []) [] (by decide) rfl
        exact W.lret (v := 1000000000000 - (fa 2)) hx hb hr (fun t ht hW => ⟨⟨1000000000000 - (fa 2), (), rfl, by have h9 := kn_cmp c11; rw [hf2] at h9; have h8 := kvq2 h9 (k - i) (by omega); rw [show i + (k - i) = k by omega] at h8; rw [hf2, h8], by rw [ht]; exact hP9, hD9⟩, hS.F ht⟩) hS.2.2 dX4_missed_64
      · refine lv_aload_n hx hb dX4_missed_43 rfl (lv_at hl 1 rfl) ?_
        refine lv_iload_n hx hb dX4_missed_44 rfl (lv_at hl 3 rfl) ?_
        have hPc := hP.sub (ws' := [(xa38, .inr (4, [.ref xa39, .ref xa40, .int 0])), (xa39, .inl (kJ, 23, .inr (.inl fa)))]) [0, 1] rfl
        have hDc := hD.sub (ws' := [(xa38, .inr (4, [.ref xa39, .ref xa40, .int 0])), (xa39, .inl (kJ, 23, .inr (.inl fa)))]) [0, 1] (by decide) rfl
        have hFc := va_free (wc := [(xa38, .inr (4, [.ref xa39, .ref xa40, .int 0])), (xa39, .inl (kJ, 23, .inr (.inl fa)))]) hD hS hA [0, 1] rfl
        refine va_callv (va_runV (As := [.int 2]) (rest := []) ⟨hx, hb, hml, hown, hts⟩ (k4_sendNext_2 l dC dI kB kI kJ kZ kC kS H.size xa38 xa39 xa40 fa) (cwV 1 hts gX4_missed_X4_sendNext rfl rfl rfl (by decide +kernel) ⟨Nat.le_of_ble_eq_true rfl, Nat.le_of_ble_eq_true rfl⟩) ⟨fun a U g mk q => by obtain ⟨q0, q1, qP, qE, qD⟩ := q; exact ⟨q0, q1, qP, kE_call qE, qD⟩, va_recv hK hP (ci := 4) (q0 := 0) rfl rfl, fun U hU hW => ⟨rfl, by rw [hU], by rw [hU]; exact hPc, kE_warm hW hE, hDc.weaken (fun _ _ _ _ => trivial)⟩⟩ rfl rfl hl.1 rfl (lv_room (Nat.le_of_ble_eq_true rfl)) dX4_missed_45 ⟨Nat.le_of_ble_eq_true rfl, Nat.le_of_ble_eq_true rfl⟩) hS (fun q _ h => hFc q h) hFc (fun u t H1 locs ht hvm w15 hB hz1 hk1 hS => ?_)
        obtain ⟨g_16, f17, f18, f19, hP1, hD1⟩ := hB
        rw [ht] at hP1
        try dsimp only at w15
        obtain ⟨hP, hD⟩ := va_join (wr := []) (w1 := [(xa38, .inr (4, [.ref xa39, .ref xa40, .int 0])), (xa39, .inl (kJ, 23, .inr (.inl g_16)))]) hP hD [0, 1] [] rfl rfl (by decide) (by decide) hk1 hFc hP1 hD1
        generalize H1 = H at hP hS ⊢
        have hP : va_P (dC, dI) vwCl [(xa38, .inr (4, [.ref xa39, .ref xa40, .int 0])), (xa39, .inl (kJ, 23, .inr (.inl g_16)))] H := hP
        have hD : va_D A [(xa38, .inr (4, [.ref xa39, .ref xa40, .int 0])), (xa39, .inl (kJ, 23, .inr (.inl g_16)))] := hD
        refine W.widen (k := 0) (n := 0) (Nat.le_of_ble_eq_true rfl) (Nat.le_of_ble_eq_true rfl) ?_
        refine lv_iinc (v := nI (i + 1)) (lv' := [(3, .int (nI (i + 1))), (0, .ref xa38), (1, .int (nI k)), (2, .int 2)]) hx hb dX4_missed_48 hl (k := 0) rfl (nI_1 i) (by decide) rfl (fun ls hl => ?_)
        refine lv_goto (tgt := 25) hx hb dX4_missed_51 (by decide) ?_
        exact ih (i + 1) g_16 _ _ _ (by omega) (by rw [f17, hf0]; exact kvs2_0 i (by omega)) (by rw [f18, hf0, hf1]; exact kvs2_1 i (by omega)) (by rw [f19, hf1, hf2]; exact kvs2_2 i (by omega)) (hP.sub [0, 1] rfl) (hD.sub [0, 1] (by decide) rfl) hS (lv_sub hl [0, 1, 2, 3] rfl)
  exact hloop25 k 0 g_3 _ _ _ (Nat.zero_add _) (f4) (f5) (f6) hP hD hS (lv_sub hl [0, 1, 2, 3] rfl)
def rm_k4_missed_3 : Room := { frames := 1, cells := 0, slots := 0, locals := 24 }
set_option maxHeartbeats 4000000 in
set_option maxRecDepth 100000 in
theorem k4_missed_3 (l : Launch) (dC : Nat → ClassId) (dI : Nat → Nat → Nat) (kB kI kJ kZ kC kS : ClassId) (sz : Nat) (xa38 : Nat) (xa39 : Nat) (xa40 : Nat) (k : Nat) (f1 : Nat → Int64) (hk : k ≤ 60) : Met l yX4_missed wsX4_missed rm_k4_missed_3 (va_Pc [.ref xa38, .int (nI k), .int 3] (fun U => U.heap.size = sz ∧ va_P (dC, dI) vwCl [(xa38, .inr (4, [.ref xa39, .ref xa40, .int 0])), (xa39, .inl (kJ, 23, .inr (.inl f1)))] U.heap ∧ kE dC dI kB kI kJ kZ kC kS U ∧ va_D (fun _ => True) [(xa38, .inr (4, [.ref xa39, .ref xa40, .int 0])), (xa39, .inl (kJ, 23, .inr (.inl f1)))])) (va_Ql (fun (r : Int64) (_ : Unit) => r = 1000000000000 - kv3 k 3) (fun _ t => va_P (dC, dI) vwCl [] t.heap ∧ va_D (va_A [(xa38, .inr (4, [.ref xa39, .ref xa40, .int 0])), (xa39, .inl (kJ, 23, .inr (.inl f1)))] sz) []) (va_A [(xa38, .inr (4, [.ref xa39, .ref xa40, .int 0])), (xa39, .inl (kJ, 23, .inr (.inl f1)))] sz)) 0 0 (va_A [(xa38, .inr (4, [.ref xa39, .ref xa40, .int 0])), (xa39, .inl (kJ, 23, .inr (.inl f1)))] sz) := by
  refine Met.ofW (cc := cX4_missed) (maxL := 4) (ret := (some .long)) (by decide) rfl ?_
  intro p e s m args0 below meth c s₁ B hml hv
  obtain ⟨hargs, hsz, hP, hE, hD0⟩ := hv
  have hx := B.exec
  have hb := B.bytes
  have hr := B.returns
  have hts := atoms_spec (ws := wsX4_missed) B.pre
  have hown : s.vm.findClass RX4 = some m.cls := findClass_of_methodNamed B.named
  have hlocks := B.notSynchronized
  have hK := hE.1
  have hin4 : ∀ w ∈ wsX40, w ∈ wsX4_missed := fun _ h9 => List.mem_cons_of_mem _ (List.mem_append_right _ h9)
  subst hsz
  have hD := hD0.self (sz := s.heap.size)
  generalize hAe : va_A [(xa38, .inr (4, [.ref xa39, .ref xa40, .int 0])), (xa39, .inl (kJ, 23, .inr (.inl f1)))] s.heap.size = A at hD ⊢
  have hA : ∀ q : Nat, s.heap.size ≤ q → A q := fun q h => by rw [← hAe]; exact Or.inr h
  have hS : va_S A s.heap s.heap [] := va_S.rf
  have hP : va_P (dC, dI) vwCl [(xa38, .inr (4, [.ref xa39, .ref xa40, .int 0])), (xa39, .inl (kJ, 23, .inr (.inl f1)))] s.heap := hP
  have hl := lv_entry ([.ref xa38, .int (nI k), .int 3]) (n := 4) (Nat.le_of_ble_eq_true rfl)
  have hla : entryFrame m args0 4 = entryFrame m ([.ref xa38, .int (nI k), .int 3] : List Value).toArray 4 := by rw [hargs]
  rw [hla, lg_entry_eq]
  generalize (lg_sl ([.ref xa38, .int (nI k), .int 3]) ++ List.replicate (4 - (lg_sl ([.ref xa38, .int (nI k), .int 3])).length) Slot.unset).toArray = ls at hl ⊢
  have hl : lv_has ls 4 [(0, .ref xa38), (1, .int (nI k)), (2, .int 3)] := hl
  refine lv_iload_n hx hb dX4_missed_0 rfl (lv_at hl 2 rfl) ?_
  refine lv_iconst (v := 1) hx hb dX4_missed_1 (by decide) ?_
  refine lv_icmp_lt (tgt := 14) hx hb dX4_missed_2 (by decide) (fun c9 => absurd c9 (by decide)) (fun _ => ?_)
  refine lv_iload_n hx hb dX4_missed_5 rfl (lv_at hl 2 rfl) ?_
  refine lv_aload_n hx hb dX4_missed_6 rfl (lv_at hl 0 rfl) ?_
  refine va_get (D := (dC, dI)) (ci := 4) (v := .ref xa39) (C := RX4) (T := TX4) (N := 3) hx hb hts hin4 hown hK hP 0 rfl rfl 0 (by decide) (hts (.fieldLink RX4 9 "PathProber$Odds" "met" "[J") (List.mem_of_getElem? (i := 1) (by decide +kernel))) (fun _ h9 => h9) rfl dX4_missed_7 ?_
  refine va_alen (v := 23) hx hb hK hP 1 2 rfl rfl rfl dX4_missed_10 ?_
  refine lv_icmp_lt (tgt := 18) hx hb dX4_missed_11 (by decide) (fun _ => ?_) (fun c9 => absurd (by decide) c9)
  refine lv_aload_n hx hb dX4_missed_18 rfl (lv_at hl 0 rfl) ?_
  refine lv_iload_n hx hb dX4_missed_19 rfl (lv_at hl 2 rfl) ?_
  have hPc := hP.sub (ws' := [(xa38, .inr (4, [.ref xa39, .ref xa40, .int 0])), (xa39, .inl (kJ, 23, .inr (.inl f1)))]) [0, 1] rfl
  have hDc := hD.sub (ws' := [(xa38, .inr (4, [.ref xa39, .ref xa40, .int 0])), (xa39, .inl (kJ, 23, .inr (.inl f1)))]) [0, 1] (by decide) rfl
  have hFc := va_free (wc := [(xa38, .inr (4, [.ref xa39, .ref xa40, .int 0])), (xa39, .inl (kJ, 23, .inr (.inl f1)))]) hD hS hA [0, 1] rfl
  refine va_callv (va_runV (As := [.int 3]) (rest := []) ⟨hx, hb, hml, hown, hts⟩ (k4_begin_3 l dC dI kB kI kJ kZ kC kS s.heap.size xa38 xa39 xa40 f1) (cwV 1 hts gX4_missed_X4_begin rfl rfl rfl (by decide +kernel) ⟨Nat.le_of_ble_eq_true rfl, Nat.le_of_ble_eq_true rfl⟩) ⟨fun a U g mk q => by obtain ⟨q0, q1, qP, qE, qD⟩ := q; exact ⟨q0, q1, qP, kE_call qE, qD⟩, va_recv hK hP (ci := 4) (q0 := 0) rfl rfl, fun U hU hW => ⟨rfl, by rw [hU], by rw [hU]; exact hPc, kE_warm hW hE, hDc.weaken (fun _ _ _ _ => trivial)⟩⟩ rfl rfl hl.1 rfl (lv_room (Nat.le_of_ble_eq_true rfl)) dX4_missed_20 ⟨Nat.le_of_ble_eq_true rfl, Nat.le_of_ble_eq_true rfl⟩) hS (fun q _ h => hFc q h) hFc (fun u t H1 locs ht hvm w2 hB hz1 hk1 hS => ?_)
  obtain ⟨g_3, f4, f5, f6, f7, hP1, hD1⟩ := hB
  rw [ht] at hP1
  try dsimp only at w2
  obtain ⟨hP, hD⟩ := va_join (wr := []) (w1 := [(xa38, .inr (4, [.ref xa39, .ref xa40, .int 0])), (xa39, .inl (kJ, 23, .inr (.inl g_3)))]) hP hD [0, 1] [] rfl rfl (by decide) (by decide) hk1 hFc hP1 hD1
  generalize H1 = H at hP hS ⊢
  have hP : va_P (dC, dI) vwCl [(xa38, .inr (4, [.ref xa39, .ref xa40, .int 0])), (xa39, .inl (kJ, 23, .inr (.inl g_3)))] H := hP
  have hD : va_D A [(xa38, .inr (4, [.ref xa39, .ref xa40, .int 0])), (xa39, .inl (kJ, 23, .inr (.inl g_3)))] := hD
  refine W.widen (k := 0) (n := 0) (Nat.le_of_ble_eq_true rfl) (Nat.le_of_ble_eq_true rfl) ?_
  refine lv_iconst (v := 0) hx hb dX4_missed_23 (by decide) ?_
  refine lv_istore_n (lv' := [(3, .int 0), (0, .ref xa38), (1, .int (nI k)), (2, .int 3)]) hx hb dX4_missed_24 rfl hl (by decide) rfl (fun ls hl => ?_)
  have hloop25 : ∀ (n : Nat) (i : Nat) (fa : Nat → Int64) (H : Heap) (locs : List Loc) (ls : Array Slot), i + n = k → fa 0 = kv3 i 0 → fa 1 = kv3 i 1 → fa 2 = kv3 i 2 → fa 3 = kv3 i 3 → va_P (dC, dI) vwCl [(xa38, .inr (4, [.ref xa39, .ref xa40, .int 0])), (xa39, .inl (kJ, 23, .inr (.inl fa)))] H → va_D A [(xa38, .inr (4, [.ref xa39, .ref xa40, .int 0])), (xa39, .inl (kJ, 23, .inr (.inl fa)))] → va_S A s.heap H locs → lv_has ls 4 [(3, .int (nI i)), (0, .ref xa38), (1, .int (nI k)), (2, .int 3)] → W p l e (headSpec wsX4_missed rm_k4_missed_3).room s m args0 below meth c H locs 0 0 (MQ below (va_Ql (fun (r : Int64) (_ : Unit) => r = 1000000000000 - kv3 k 3) (fun _ t => va_P (dC, dI) vwCl [] t.heap ∧ va_D A []) A) args0 s 0 0 A) (F0 m 25 ls []) := by
    intro n
    induction n with
    | zero =>
      intro i fa H locs ls hi hf0 hf1 hf2 hf3 hP hD hS hl
      refine lv_iload_n hx hb dX4_missed_25 rfl (lv_at hl 0 rfl) ?_
      refine lv_iload_n hx hb dX4_missed_26 rfl (lv_at hl 2 rfl) ?_
      refine lv_icmp_ge (tgt := 54) hx hb dX4_missed_27 (by decide) (fun _ => ?_) (fun c9 => absurd (nI_le (by omega) (by omega)) c9)
      refine lv_ldc2 hx hb hown (hts (.constantLong RX4 23 (1000000000000)) (List.mem_of_getElem? (i := 2) (by decide +kernel))) dX4_missed_54 ?_
      refine lv_aload_n hx hb dX4_missed_57 rfl (lv_at hl 1 rfl) ?_
      refine va_get (D := (dC, dI)) (ci := 4) (v := .ref xa39) (C := RX4) (T := TX4) (N := 3) hx hb hts hin4 hown hK hP 0 rfl rfl 0 (by decide) (hts (.fieldLink RX4 9 "PathProber$Odds" "met" "[J") (List.mem_of_getElem? (i := 1) (by decide +kernel))) (fun _ h9 => h9) rfl dX4_missed_58 ?_
      refine lv_iload_n hx hb dX4_missed_61 rfl (lv_at hl 3 rfl) ?_
      refine va_lald hx hb hK hP 1 2 rfl rfl (vp_in_nI (n := 3) (by decide) (by decide)) dX4_missed_62 ?_
      refine lv_topl (fun z8 e9 => ?_)
      obtain rfl : z8 = (fa 3 : Int64) := e9
      refine lv_lsub hx hb dX4_missed_63 ?_
      have hP9 := hP.sub (ws' := []) [] rfl
      have hD9 := hD.sub (ws' := []) [] (by decide) rfl
      exact W.lret (v := 1000000000000 - (fa 3)) hx hb hr (fun t ht hW => ⟨⟨1000000000000 - (fa 3), (), rfl, by have h9 : i = k := (by omega); subst h9; rw [hf3], by rw [ht]; exact hP9, hD9⟩, hS.F ht⟩) hS.2.2 dX4_missed_64
    | succ n ih =>
      intro i fa H locs ls hi hf0 hf1 hf2 hf3 hP hD hS hl
      refine lv_iload_n hx hb dX4_missed_25 rfl (lv_at hl 0 rfl) ?_
      refine lv_iload_n hx hb dX4_missed_26 rfl (lv_at hl 2 rfl) ?_
      refine lv_icmp_ge (tgt := 54) hx hb dX4_missed_27 (by decide) (fun c9 => absurd c9 (nI_ge (by omega) (by omega))) (fun _ => ?_)
      refine lv_aload_n hx hb dX4_missed_30 rfl (lv_at hl 1 rfl) ?_
      refine va_get (D := (dC, dI)) (ci := 4) (v := .ref xa39) (C := RX4) (T := TX4) (N := 3) hx hb hts hin4 hown hK hP 0 rfl rfl 0 (by decide) (hts (.fieldLink RX4 9 "PathProber$Odds" "met" "[J") (List.mem_of_getElem? (i := 1) (by decide +kernel))) (fun _ h9 => h9) rfl dX4_missed_31 ?_
      refine lv_iload_n hx hb dX4_missed_34 rfl (lv_at hl 3 rfl) ?_
      refine va_lald hx hb hK hP 1 2 rfl rfl (vp_in_nI (n := 3) (by decide) (by decide)) dX4_missed_35 ?_
      refine lv_topl (fun z10 e11 => ?_)
      obtain rfl : z10 = (fa 3 : Int64) := e11
      refine lv_ldc2 hx hb hown (hts (.constantLong RX4 23 (1000000000000)) (List.mem_of_getElem? (i := 2) (by decide +kernel))) dX4_missed_36 ?_
      refine W.lcmp hx hb dX4_missed_39 ?_
      refine lv_if_ge (tgt := 54) hx hb dX4_missed_40 (by decide) (fun c12 => ?_) (fun c12 => ?_)
      · refine lv_ldc2 hx hb hown (hts (.constantLong RX4 23 (1000000000000)) (List.mem_of_getElem? (i := 2) (by decide +kernel))) dX4_missed_54 ?_
        refine lv_aload_n hx hb dX4_missed_57 rfl (lv_at hl 1 rfl) ?_
        refine va_get (D := (dC, dI)) (ci := 4) (v := .ref xa39) (C := RX4) (T := TX4) (N := 3) hx hb hts hin4 hown hK hP 0 rfl rfl 0 (by decide) (hts (.fieldLink RX4 9 "PathProber$Odds" "met" "[J") (List.mem_of_getElem? (i := 1) (by decide +kernel))) (fun _ h9 => h9) rfl dX4_missed_58 ?_
        refine lv_iload_n hx hb dX4_missed_61 rfl (lv_at hl 3 rfl) ?_
        refine va_lald hx hb hK hP 1 2 rfl rfl (vp_in_nI (n := 3) (by decide) (by decide)) dX4_missed_62 ?_
        refine lv_topl (fun z13 e14 => ?_)
        obtain rfl : z13 = (fa 3 : Int64) := e14
        refine lv_lsub hx hb dX4_missed_63 ?_
        have hP9 := hP.sub (ws' := []) [] rfl
        have hD9 := hD.sub (ws' := []) [] (by decide) rfl
        exact W.lret (v := 1000000000000 - (fa 3)) hx hb hr (fun t ht hW => ⟨⟨1000000000000 - (fa 3), (), rfl, by have h9 := kn_cmp c12; rw [hf3] at h9; have h8 := kvq3 h9 (k - i) (by omega); rw [show i + (k - i) = k by omega] at h8; rw [hf3, h8], by rw [ht]; exact hP9, hD9⟩, hS.F ht⟩) hS.2.2 dX4_missed_64
      · refine lv_aload_n hx hb dX4_missed_43 rfl (lv_at hl 1 rfl) ?_
        refine lv_iload_n hx hb dX4_missed_44 rfl (lv_at hl 3 rfl) ?_
        have hPc := hP.sub (ws' := [(xa38, .inr (4, [.ref xa39, .ref xa40, .int 0])), (xa39, .inl (kJ, 23, .inr (.inl fa)))]) [0, 1] rfl
        have hDc := hD.sub (ws' := [(xa38, .inr (4, [.ref xa39, .ref xa40, .int 0])), (xa39, .inl (kJ, 23, .inr (.inl fa)))]) [0, 1] (by decide) rfl
        have hFc := va_free (wc := [(xa38, .inr (4, [.ref xa39, .ref xa40, .int 0])), (xa39, .inl (kJ, 23, .inr (.inl fa)))]) hD hS hA [0, 1] rfl
        refine va_callv (va_runV (As := [.int 3]) (rest := []) ⟨hx, hb, hml, hown, hts⟩ (k4_sendNext_3 l dC dI kB kI kJ kZ kC kS H.size xa38 xa39 xa40 fa) (cwV 1 hts gX4_missed_X4_sendNext rfl rfl rfl (by decide +kernel) ⟨Nat.le_of_ble_eq_true rfl, Nat.le_of_ble_eq_true rfl⟩) ⟨fun a U g mk q => by obtain ⟨q0, q1, qP, qE, qD⟩ := q; exact ⟨q0, q1, qP, kE_call qE, qD⟩, va_recv hK hP (ci := 4) (q0 := 0) rfl rfl, fun U hU hW => ⟨rfl, by rw [hU], by rw [hU]; exact hPc, kE_warm hW hE, hDc.weaken (fun _ _ _ _ => trivial)⟩⟩ rfl rfl hl.1 rfl (lv_room (Nat.le_of_ble_eq_true rfl)) dX4_missed_45 ⟨Nat.le_of_ble_eq_true rfl, Nat.le_of_ble_eq_true rfl⟩) hS (fun q _ h => hFc q h) hFc (fun u t H1 locs ht hvm w16 hB hz1 hk1 hS => ?_)
        obtain ⟨g_17, f18, f19, f20, f21, hP1, hD1⟩ := hB
        rw [ht] at hP1
        try dsimp only at w16
        obtain ⟨hP, hD⟩ := va_join (wr := []) (w1 := [(xa38, .inr (4, [.ref xa39, .ref xa40, .int 0])), (xa39, .inl (kJ, 23, .inr (.inl g_17)))]) hP hD [0, 1] [] rfl rfl (by decide) (by decide) hk1 hFc hP1 hD1
        generalize H1 = H at hP hS ⊢
        have hP : va_P (dC, dI) vwCl [(xa38, .inr (4, [.ref xa39, .ref xa40, .int 0])), (xa39, .inl (kJ, 23, .inr (.inl g_17)))] H := hP
        have hD : va_D A [(xa38, .inr (4, [.ref xa39, .ref xa40, .int 0])), (xa39, .inl (kJ, 23, .inr (.inl g_17)))] := hD
        refine W.widen (k := 0) (n := 0) (Nat.le_of_ble_eq_true rfl) (Nat.le_of_ble_eq_true rfl) ?_
        refine lv_iinc (v := nI (i + 1)) (lv' := [(3, .int (nI (i + 1))), (0, .ref xa38), (1, .int (nI k)), (2, .int 3)]) hx hb dX4_missed_48 hl (k := 0) rfl (nI_1 i) (by decide) rfl (fun ls hl => ?_)
        refine lv_goto (tgt := 25) hx hb dX4_missed_51 (by decide) ?_
        exact ih (i + 1) g_17 _ _ _ (by omega) (by rw [f18, hf0]; exact kvs3_0 i (by omega)) (by rw [f19, hf0, hf1]; exact kvs3_1 i (by omega)) (by rw [f20, hf1, hf2]; exact kvs3_2 i (by omega)) (by rw [f21, hf2, hf3]; exact kvs3_3 i (by omega)) (hP.sub [0, 1] rfl) (hD.sub [0, 1] (by decide) rfl) hS (lv_sub hl [0, 1, 2, 3] rfl)
  exact hloop25 k 0 g_3 _ _ _ (Nat.zero_add _) (f4) (f5) (f6) (f7) hP hD hS (lv_sub hl [0, 1, 2, 3] rfl)
def rm_k4_missed_4 : Room := { frames := 1, cells := 0, slots := 0, locals := 24 }
set_option maxHeartbeats 4000000 in
set_option maxRecDepth 100000 in
theorem k4_missed_4 (l : Launch) (dC : Nat → ClassId) (dI : Nat → Nat → Nat) (kB kI kJ kZ kC kS : ClassId) (sz : Nat) (xa38 : Nat) (xa39 : Nat) (xa40 : Nat) (k : Nat) (f1 : Nat → Int64) (hk : k ≤ 60) : Met l yX4_missed wsX4_missed rm_k4_missed_4 (va_Pc [.ref xa38, .int (nI k), .int 4] (fun U => U.heap.size = sz ∧ va_P (dC, dI) vwCl [(xa38, .inr (4, [.ref xa39, .ref xa40, .int 0])), (xa39, .inl (kJ, 23, .inr (.inl f1)))] U.heap ∧ kE dC dI kB kI kJ kZ kC kS U ∧ va_D (fun _ => True) [(xa38, .inr (4, [.ref xa39, .ref xa40, .int 0])), (xa39, .inl (kJ, 23, .inr (.inl f1)))])) (va_Ql (fun (r : Int64) (_ : Unit) => r = 1000000000000 - kv4 k 4) (fun _ t => va_P (dC, dI) vwCl [] t.heap ∧ va_D (va_A [(xa38, .inr (4, [.ref xa39, .ref xa40, .int 0])), (xa39, .inl (kJ, 23, .inr (.inl f1)))] sz) []) (va_A [(xa38, .inr (4, [.ref xa39, .ref xa40, .int 0])), (xa39, .inl (kJ, 23, .inr (.inl f1)))] sz)) 0 0 (va_A [(xa38, .inr (4, [.ref xa39, .ref xa40, .int 0])), (xa39, .inl (kJ, 23, .inr (.inl f1)))] sz) := by
  refine Met.ofW (cc := cX4_missed) (maxL := 4) (ret := (some .long)) (by decide) rfl ?_
  intro p e s m args0 below meth c s₁ B hml hv
  obtain ⟨hargs, hsz, hP, hE, hD0⟩ := hv
  have hx := B.exec
  have hb := B.bytes
  have hr := B.returns
  have hts := atoms_spec (ws := wsX4_missed) B.pre
  have hown : s.vm.findClass RX4 = some m.cls := findClass_of_methodNamed B.named
  have hlocks := B.notSynchronized
  have hK := hE.1
  have hin4 : ∀ w ∈ wsX40, w ∈ wsX4_missed := fun _ h9 => List.mem_cons_of_mem _ (List.mem_append_right _ h9)
  subst hsz
  have hD := hD0.self (sz := s.heap.size)
  generalize hAe : va_A [(xa38, .inr (4, [.ref xa39, .ref xa40, .int 0])), (xa39, .inl (kJ, 23, .inr (.inl f1)))] s.heap.size = A at hD ⊢
  have hA : ∀ q : Nat, s.heap.size ≤ q → A q := fun q h => by rw [← hAe]; exact Or.inr h
  have hS : va_S A s.heap s.heap [] := va_S.rf
  have hP : va_P (dC, dI) vwCl [(xa38, .inr (4, [.ref xa39, .ref xa40, .int 0])), (xa39, .inl (kJ, 23, .inr (.inl f1)))] s.heap := hP
  have hl := lv_entry ([.ref xa38, .int (nI k), .int 4]) (n := 4) (Nat.le_of_ble_eq_true rfl)
  have hla : entryFrame m args0 4 = entryFrame m ([.ref xa38, .int (nI k), .int 4] : List Value).toArray 4 := by rw [hargs]
  rw [hla, lg_entry_eq]
  generalize (lg_sl ([.ref xa38, .int (nI k), .int 4]) ++ List.replicate (4 - (lg_sl ([.ref xa38, .int (nI k), .int 4])).length) Slot.unset).toArray = ls at hl ⊢
  have hl : lv_has ls 4 [(0, .ref xa38), (1, .int (nI k)), (2, .int 4)] := hl
  refine lv_iload_n hx hb dX4_missed_0 rfl (lv_at hl 2 rfl) ?_
  refine lv_iconst (v := 1) hx hb dX4_missed_1 (by decide) ?_
  refine lv_icmp_lt (tgt := 14) hx hb dX4_missed_2 (by decide) (fun c9 => absurd c9 (by decide)) (fun _ => ?_)
  refine lv_iload_n hx hb dX4_missed_5 rfl (lv_at hl 2 rfl) ?_
  refine lv_aload_n hx hb dX4_missed_6 rfl (lv_at hl 0 rfl) ?_
  refine va_get (D := (dC, dI)) (ci := 4) (v := .ref xa39) (C := RX4) (T := TX4) (N := 3) hx hb hts hin4 hown hK hP 0 rfl rfl 0 (by decide) (hts (.fieldLink RX4 9 "PathProber$Odds" "met" "[J") (List.mem_of_getElem? (i := 1) (by decide +kernel))) (fun _ h9 => h9) rfl dX4_missed_7 ?_
  refine va_alen (v := 23) hx hb hK hP 1 2 rfl rfl rfl dX4_missed_10 ?_
  refine lv_icmp_lt (tgt := 18) hx hb dX4_missed_11 (by decide) (fun _ => ?_) (fun c9 => absurd (by decide) c9)
  refine lv_aload_n hx hb dX4_missed_18 rfl (lv_at hl 0 rfl) ?_
  refine lv_iload_n hx hb dX4_missed_19 rfl (lv_at hl 2 rfl) ?_
  have hPc := hP.sub (ws' := [(xa38, .inr (4, [.ref xa39, .ref xa40, .int 0])), (xa39, .inl (kJ, 23, .inr (.inl f1)))]) [0, 1] rfl
  have hDc := hD.sub (ws' := [(xa38, .inr (4, [.ref xa39, .ref xa40, .int 0])), (xa39, .inl (kJ, 23, .inr (.inl f1)))]) [0, 1] (by decide) rfl
  have hFc := va_free (wc := [(xa38, .inr (4, [.ref xa39, .ref xa40, .int 0])), (xa39, .inl (kJ, 23, .inr (.inl f1)))]) hD hS hA [0, 1] rfl
  refine va_callv (va_runV (As := [.int 4]) (rest := []) ⟨hx, hb, hml, hown, hts⟩ (k4_begin_4 l dC dI kB kI kJ kZ kC kS s.heap.size xa38 xa39 xa40 f1) (cwV 1 hts gX4_missed_X4_begin rfl rfl rfl (by decide +kernel) ⟨Nat.le_of_ble_eq_true rfl, Nat.le_of_ble_eq_true rfl⟩) ⟨fun a U g mk q => by obtain ⟨q0, q1, qP, qE, qD⟩ := q; exact ⟨q0, q1, qP, kE_call qE, qD⟩, va_recv hK hP (ci := 4) (q0 := 0) rfl rfl, fun U hU hW => ⟨rfl, by rw [hU], by rw [hU]; exact hPc, kE_warm hW hE, hDc.weaken (fun _ _ _ _ => trivial)⟩⟩ rfl rfl hl.1 rfl (lv_room (Nat.le_of_ble_eq_true rfl)) dX4_missed_20 ⟨Nat.le_of_ble_eq_true rfl, Nat.le_of_ble_eq_true rfl⟩) hS (fun q _ h => hFc q h) hFc (fun u t H1 locs ht hvm w2 hB hz1 hk1 hS => ?_)
  obtain ⟨g_3, f4, f5, f6, f7, f8, hP1, hD1⟩ := hB
  rw [ht] at hP1
  try dsimp only at w2
  obtain ⟨hP, hD⟩ := va_join (wr := []) (w1 := [(xa38, .inr (4, [.ref xa39, .ref xa40, .int 0])), (xa39, .inl (kJ, 23, .inr (.inl g_3)))]) hP hD [0, 1] [] rfl rfl (by decide) (by decide) hk1 hFc hP1 hD1
  generalize H1 = H at hP hS ⊢
  have hP : va_P (dC, dI) vwCl [(xa38, .inr (4, [.ref xa39, .ref xa40, .int 0])), (xa39, .inl (kJ, 23, .inr (.inl g_3)))] H := hP
  have hD : va_D A [(xa38, .inr (4, [.ref xa39, .ref xa40, .int 0])), (xa39, .inl (kJ, 23, .inr (.inl g_3)))] := hD
  refine W.widen (k := 0) (n := 0) (Nat.le_of_ble_eq_true rfl) (Nat.le_of_ble_eq_true rfl) ?_
  refine lv_iconst (v := 0) hx hb dX4_missed_23 (by decide) ?_
  refine lv_istore_n (lv' := [(3, .int 0), (0, .ref xa38), (1, .int (nI k)), (2, .int 4)]) hx hb dX4_missed_24 rfl hl (by decide) rfl (fun ls hl => ?_)
  have hloop25 : ∀ (n : Nat) (i : Nat) (fa : Nat → Int64) (H : Heap) (locs : List Loc) (ls : Array Slot), i + n = k → fa 0 = kv4 i 0 → fa 1 = kv4 i 1 → fa 2 = kv4 i 2 → fa 3 = kv4 i 3 → fa 4 = kv4 i 4 → va_P (dC, dI) vwCl [(xa38, .inr (4, [.ref xa39, .ref xa40, .int 0])), (xa39, .inl (kJ, 23, .inr (.inl fa)))] H → va_D A [(xa38, .inr (4, [.ref xa39, .ref xa40, .int 0])), (xa39, .inl (kJ, 23, .inr (.inl fa)))] → va_S A s.heap H locs → lv_has ls 4 [(3, .int (nI i)), (0, .ref xa38), (1, .int (nI k)), (2, .int 4)] → W p l e (headSpec wsX4_missed rm_k4_missed_4).room s m args0 below meth c H locs 0 0 (MQ below (va_Ql (fun (r : Int64) (_ : Unit) => r = 1000000000000 - kv4 k 4) (fun _ t => va_P (dC, dI) vwCl [] t.heap ∧ va_D A []) A) args0 s 0 0 A) (F0 m 25 ls []) := by
    intro n
    induction n with
    | zero =>
      intro i fa H locs ls hi hf0 hf1 hf2 hf3 hf4 hP hD hS hl
      refine lv_iload_n hx hb dX4_missed_25 rfl (lv_at hl 0 rfl) ?_
      refine lv_iload_n hx hb dX4_missed_26 rfl (lv_at hl 2 rfl) ?_
      refine lv_icmp_ge (tgt := 54) hx hb dX4_missed_27 (by decide) (fun _ => ?_) (fun c9 => absurd (nI_le (by omega) (by omega)) c9)
      refine lv_ldc2 hx hb hown (hts (.constantLong RX4 23 (1000000000000)) (List.mem_of_getElem? (i := 2) (by decide +kernel))) dX4_missed_54 ?_
      refine lv_aload_n hx hb dX4_missed_57 rfl (lv_at hl 1 rfl) ?_
      refine va_get (D := (dC, dI)) (ci := 4) (v := .ref xa39) (C := RX4) (T := TX4) (N := 3) hx hb hts hin4 hown hK hP 0 rfl rfl 0 (by decide) (hts (.fieldLink RX4 9 "PathProber$Odds" "met" "[J") (List.mem_of_getElem? (i := 1) (by decide +kernel))) (fun _ h9 => h9) rfl dX4_missed_58 ?_
      refine lv_iload_n hx hb dX4_missed_61 rfl (lv_at hl 3 rfl) ?_
      refine va_lald hx hb hK hP 1 2 rfl rfl (vp_in_nI (n := 4) (by decide) (by decide)) dX4_missed_62 ?_
      refine lv_topl (fun z9 e10 => ?_)
      obtain rfl : z9 = (fa 4 : Int64) := e10
      refine lv_lsub hx hb dX4_missed_63 ?_
      have hP9 := hP.sub (ws' := []) [] rfl
      have hD9 := hD.sub (ws' := []) [] (by decide) rfl
      exact W.lret (v := 1000000000000 - (fa 4)) hx hb hr (fun t ht hW => ⟨⟨1000000000000 - (fa 4), (), rfl, by have h9 : i = k := (by omega); subst h9; rw [hf4], by rw [ht]; exact hP9, hD9⟩, hS.F ht⟩) hS.2.2 dX4_missed_64
    | succ n ih =>
      intro i fa H locs ls hi hf0 hf1 hf2 hf3 hf4 hP hD hS hl
      refine lv_iload_n hx hb dX4_missed_25 rfl (lv_at hl 0 rfl) ?_
      refine lv_iload_n hx hb dX4_missed_26 rfl (lv_at hl 2 rfl) ?_
      refine lv_icmp_ge (tgt := 54) hx hb dX4_missed_27 (by decide) (fun c9 => absurd c9 (nI_ge (by omega) (by omega))) (fun _ => ?_)
      refine lv_aload_n hx hb dX4_missed_30 rfl (lv_at hl 1 rfl) ?_
      refine va_get (D := (dC, dI)) (ci := 4) (v := .ref xa39) (C := RX4) (T := TX4) (N := 3) hx hb hts hin4 hown hK hP 0 rfl rfl 0 (by decide) (hts (.fieldLink RX4 9 "PathProber$Odds" "met" "[J") (List.mem_of_getElem? (i := 1) (by decide +kernel))) (fun _ h9 => h9) rfl dX4_missed_31 ?_
      refine lv_iload_n hx hb dX4_missed_34 rfl (lv_at hl 3 rfl) ?_
      refine va_lald hx hb hK hP 1 2 rfl rfl (vp_in_nI (n := 4) (by decide) (by decide)) dX4_missed_35 ?_
      refine lv_topl (fun z11 e12 => ?_)
      obtain rfl : z11 = (fa 4 : Int64) := e12
      refine lv_ldc2 hx hb hown (hts (.constantLong RX4 23 (1000000000000)) (List.mem_of_getElem? (i := 2) (by decide +kernel))) dX4_missed_36 ?_
      refine W.lcmp hx hb dX4_missed_39 ?_
      refine lv_if_ge (tgt := 54) hx hb dX4_missed_40 (by decide) (fun c13 => ?_) (fun c13 => ?_)
      · refine lv_ldc2 hx hb hown (hts (.constantLong RX4 23 (1000000000000)) (List.mem_of_getElem? (i := 2) (by decide +kernel))) dX4_missed_54 ?_
        refine lv_aload_n hx hb dX4_missed_57 rfl (lv_at hl 1 rfl) ?_
        refine va_get (D := (dC, dI)) (ci := 4) (v := .ref xa39) (C := RX4) (T := TX4) (N := 3) hx hb hts hin4 hown hK hP 0 rfl rfl 0 (by decide) (hts (.fieldLink RX4 9 "PathProber$Odds" "met" "[J") (List.mem_of_getElem? (i := 1) (by decide +kernel))) (fun _ h9 => h9) rfl dX4_missed_58 ?_
        refine lv_iload_n hx hb dX4_missed_61 rfl (lv_at hl 3 rfl) ?_
        refine va_lald hx hb hK hP 1 2 rfl rfl (vp_in_nI (n := 4) (by decide) (by decide)) dX4_missed_62 ?_
        refine lv_topl (fun z14 e15 => ?_)
        obtain rfl : z14 = (fa 4 : Int64) := e15
        refine lv_lsub hx hb dX4_missed_63 ?_
        have hP9 := hP.sub (ws' := []) [] rfl
        have hD9 := hD.sub (ws' := []) [] (by decide) rfl
        exact W.lret (v := 1000000000000 - (fa 4)) hx hb hr (fun t ht hW => ⟨⟨1000000000000 - (fa 4), (), rfl, by have h9 := kn_cmp c13; rw [hf4] at h9; have h8 := kvq4 h9 (k - i) (by omega); rw [show i + (k - i) = k by omega] at h8; rw [hf4, h8], by rw [ht]; exact hP9, hD9⟩, hS.F ht⟩) hS.2.2 dX4_missed_64
      · refine lv_aload_n hx hb dX4_missed_43 rfl (lv_at hl 1 rfl) ?_
        refine lv_iload_n hx hb dX4_missed_44 rfl (lv_at hl 3 rfl) ?_
        have hPc := hP.sub (ws' := [(xa38, .inr (4, [.ref xa39, .ref xa40, .int 0])), (xa39, .inl (kJ, 23, .inr (.inl fa)))]) [0, 1] rfl
        have hDc := hD.sub (ws' := [(xa38, .inr (4, [.ref xa39, .ref xa40, .int 0])), (xa39, .inl (kJ, 23, .inr (.inl fa)))]) [0, 1] (by decide) rfl
        have hFc := va_free (wc := [(xa38, .inr (4, [.ref xa39, .ref xa40, .int 0])), (xa39, .inl (kJ, 23, .inr (.inl fa)))]) hD hS hA [0, 1] rfl
        refine va_callv (va_runV (As := [.int 4]) (rest := []) ⟨hx, hb, hml, hown, hts⟩ (k4_sendNext_4 l dC dI kB kI kJ kZ kC kS H.size xa38 xa39 xa40 fa) (cwV 1 hts gX4_missed_X4_sendNext rfl rfl rfl (by decide +kernel) ⟨Nat.le_of_ble_eq_true rfl, Nat.le_of_ble_eq_true rfl⟩) ⟨fun a U g mk q => by obtain ⟨q0, q1, qP, qE, qD⟩ := q; exact ⟨q0, q1, qP, kE_call qE, qD⟩, va_recv hK hP (ci := 4) (q0 := 0) rfl rfl, fun U hU hW => ⟨rfl, by rw [hU], by rw [hU]; exact hPc, kE_warm hW hE, hDc.weaken (fun _ _ _ _ => trivial)⟩⟩ rfl rfl hl.1 rfl (lv_room (Nat.le_of_ble_eq_true rfl)) dX4_missed_45 ⟨Nat.le_of_ble_eq_true rfl, Nat.le_of_ble_eq_true rfl⟩) hS (fun q _ h => hFc q h) hFc (fun u t H1 locs ht hvm w17 hB hz1 hk1 hS => ?_)
        obtain ⟨g_18, f19, f20, f21, f22, f23, hP1, hD1⟩ := hB
        rw [ht] at hP1
        try dsimp only at w17
        obtain ⟨hP, hD⟩ := va_join (wr := []) (w1 := [(xa38, .inr (4, [.ref xa39, .ref xa40, .int 0])), (xa39, .inl (kJ, 23, .inr (.inl g_18)))]) hP hD [0, 1] [] rfl rfl (by decide) (by decide) hk1 hFc hP1 hD1
        generalize H1 = H at hP hS ⊢
        have hP : va_P (dC, dI) vwCl [(xa38, .inr (4, [.ref xa39, .ref xa40, .int 0])), (xa39, .inl (kJ, 23, .inr (.inl g_18)))] H := hP
        have hD : va_D A [(xa38, .inr (4, [.ref xa39, .ref xa40, .int 0])), (xa39, .inl (kJ, 23, .inr (.inl g_18)))] := hD
        refine W.widen (k := 0) (n := 0) (Nat.le_of_ble_eq_true rfl) (Nat.le_of_ble_eq_true rfl) ?_
        refine lv_iinc (v := nI (i + 1)) (lv' := [(3, .int (nI (i + 1))), (0, .ref xa38), (1, .int (nI k)), (2, .int 4)]) hx hb dX4_missed_48 hl (k := 0) rfl (nI_1 i) (by decide) rfl (fun ls hl => ?_)
        refine lv_goto (tgt := 25) hx hb dX4_missed_51 (by decide) ?_
        exact ih (i + 1) g_18 _ _ _ (by omega) (by rw [f19, hf0]; exact kvs4_0 i (by omega)) (by rw [f20, hf0, hf1]; exact kvs4_1 i (by omega)) (by rw [f21, hf1, hf2]; exact kvs4_2 i (by omega)) (by rw [f22, hf2, hf3]; exact kvs4_3 i (by omega)) (by rw [f23, hf3, hf4]; exact kvs4_4 i (by omega)) (hP.sub [0, 1] rfl) (hD.sub [0, 1] (by decide) rfl) hS (lv_sub hl [0, 1, 2, 3] rfl)
  exact hloop25 k 0 g_3 _ _ _ (Nat.zero_add _) (f4) (f5) (f6) (f7) (f8) hP hD hS (lv_sub hl [0, 1, 2, 3] rfl)
def rm_k4_missed_5 : Room := { frames := 1, cells := 0, slots := 0, locals := 24 }
set_option maxHeartbeats 4000000 in
set_option maxRecDepth 100000 in
theorem k4_missed_5 (l : Launch) (dC : Nat → ClassId) (dI : Nat → Nat → Nat) (kB kI kJ kZ kC kS : ClassId) (sz : Nat) (xa38 : Nat) (xa39 : Nat) (xa40 : Nat) (k : Nat) (f1 : Nat → Int64) (hk : k ≤ 60) : Met l yX4_missed wsX4_missed rm_k4_missed_5 (va_Pc [.ref xa38, .int (nI k), .int 5] (fun U => U.heap.size = sz ∧ va_P (dC, dI) vwCl [(xa38, .inr (4, [.ref xa39, .ref xa40, .int 0])), (xa39, .inl (kJ, 23, .inr (.inl f1)))] U.heap ∧ kE dC dI kB kI kJ kZ kC kS U ∧ va_D (fun _ => True) [(xa38, .inr (4, [.ref xa39, .ref xa40, .int 0])), (xa39, .inl (kJ, 23, .inr (.inl f1)))])) (va_Ql (fun (r : Int64) (_ : Unit) => r = 1000000000000 - kv5 k 5) (fun _ t => va_P (dC, dI) vwCl [] t.heap ∧ va_D (va_A [(xa38, .inr (4, [.ref xa39, .ref xa40, .int 0])), (xa39, .inl (kJ, 23, .inr (.inl f1)))] sz) []) (va_A [(xa38, .inr (4, [.ref xa39, .ref xa40, .int 0])), (xa39, .inl (kJ, 23, .inr (.inl f1)))] sz)) 0 0 (va_A [(xa38, .inr (4, [.ref xa39, .ref xa40, .int 0])), (xa39, .inl (kJ, 23, .inr (.inl f1)))] sz) := by
  refine Met.ofW (cc := cX4_missed) (maxL := 4) (ret := (some .long)) (by decide) rfl ?_
  intro p e s m args0 below meth c s₁ B hml hv
  obtain ⟨hargs, hsz, hP, hE, hD0⟩ := hv
  have hx := B.exec
  have hb := B.bytes
  have hr := B.returns
  have hts := atoms_spec (ws := wsX4_missed) B.pre
  have hown : s.vm.findClass RX4 = some m.cls := findClass_of_methodNamed B.named
  have hlocks := B.notSynchronized
  have hK := hE.1
  have hin4 : ∀ w ∈ wsX40, w ∈ wsX4_missed := fun _ h9 => List.mem_cons_of_mem _ (List.mem_append_right _ h9)
  subst hsz
  have hD := hD0.self (sz := s.heap.size)
  generalize hAe : va_A [(xa38, .inr (4, [.ref xa39, .ref xa40, .int 0])), (xa39, .inl (kJ, 23, .inr (.inl f1)))] s.heap.size = A at hD ⊢
  have hA : ∀ q : Nat, s.heap.size ≤ q → A q := fun q h => by rw [← hAe]; exact Or.inr h
  have hS : va_S A s.heap s.heap [] := va_S.rf
  have hP : va_P (dC, dI) vwCl [(xa38, .inr (4, [.ref xa39, .ref xa40, .int 0])), (xa39, .inl (kJ, 23, .inr (.inl f1)))] s.heap := hP
  have hl := lv_entry ([.ref xa38, .int (nI k), .int 5]) (n := 4) (Nat.le_of_ble_eq_true rfl)
  have hla : entryFrame m args0 4 = entryFrame m ([.ref xa38, .int (nI k), .int 5] : List Value).toArray 4 := by rw [hargs]
  rw [hla, lg_entry_eq]
  generalize (lg_sl ([.ref xa38, .int (nI k), .int 5]) ++ List.replicate (4 - (lg_sl ([.ref xa38, .int (nI k), .int 5])).length) Slot.unset).toArray = ls at hl ⊢
  have hl : lv_has ls 4 [(0, .ref xa38), (1, .int (nI k)), (2, .int 5)] := hl
  refine lv_iload_n hx hb dX4_missed_0 rfl (lv_at hl 2 rfl) ?_
  refine lv_iconst (v := 1) hx hb dX4_missed_1 (by decide) ?_
  refine lv_icmp_lt (tgt := 14) hx hb dX4_missed_2 (by decide) (fun c9 => absurd c9 (by decide)) (fun _ => ?_)
  refine lv_iload_n hx hb dX4_missed_5 rfl (lv_at hl 2 rfl) ?_
  refine lv_aload_n hx hb dX4_missed_6 rfl (lv_at hl 0 rfl) ?_
  refine va_get (D := (dC, dI)) (ci := 4) (v := .ref xa39) (C := RX4) (T := TX4) (N := 3) hx hb hts hin4 hown hK hP 0 rfl rfl 0 (by decide) (hts (.fieldLink RX4 9 "PathProber$Odds" "met" "[J") (List.mem_of_getElem? (i := 1) (by decide +kernel))) (fun _ h9 => h9) rfl dX4_missed_7 ?_
  refine va_alen (v := 23) hx hb hK hP 1 2 rfl rfl rfl dX4_missed_10 ?_
  refine lv_icmp_lt (tgt := 18) hx hb dX4_missed_11 (by decide) (fun _ => ?_) (fun c9 => absurd (by decide) c9)
  refine lv_aload_n hx hb dX4_missed_18 rfl (lv_at hl 0 rfl) ?_
  refine lv_iload_n hx hb dX4_missed_19 rfl (lv_at hl 2 rfl) ?_
  have hPc := hP.sub (ws' := [(xa38, .inr (4, [.ref xa39, .ref xa40, .int 0])), (xa39, .inl (kJ, 23, .inr (.inl f1)))]) [0, 1] rfl
  have hDc := hD.sub (ws' := [(xa38, .inr (4, [.ref xa39, .ref xa40, .int 0])), (xa39, .inl (kJ, 23, .inr (.inl f1)))]) [0, 1] (by decide) rfl
  have hFc := va_free (wc := [(xa38, .inr (4, [.ref xa39, .ref xa40, .int 0])), (xa39, .inl (kJ, 23, .inr (.inl f1)))]) hD hS hA [0, 1] rfl
  refine va_callv (va_runV (As := [.int 5]) (rest := []) ⟨hx, hb, hml, hown, hts⟩ (k4_begin_5 l dC dI kB kI kJ kZ kC kS s.heap.size xa38 xa39 xa40 f1) (cwV 1 hts gX4_missed_X4_begin rfl rfl rfl (by decide +kernel) ⟨Nat.le_of_ble_eq_true rfl, Nat.le_of_ble_eq_true rfl⟩) ⟨fun a U g mk q => by obtain ⟨q0, q1, qP, qE, qD⟩ := q; exact ⟨q0, q1, qP, kE_call qE, qD⟩, va_recv hK hP (ci := 4) (q0 := 0) rfl rfl, fun U hU hW => ⟨rfl, by rw [hU], by rw [hU]; exact hPc, kE_warm hW hE, hDc.weaken (fun _ _ _ _ => trivial)⟩⟩ rfl rfl hl.1 rfl (lv_room (Nat.le_of_ble_eq_true rfl)) dX4_missed_20 ⟨Nat.le_of_ble_eq_true rfl, Nat.le_of_ble_eq_true rfl⟩) hS (fun q _ h => hFc q h) hFc (fun u t H1 locs ht hvm w2 hB hz1 hk1 hS => ?_)
  obtain ⟨g_3, f4, f5, f6, f7, f8, f9, hP1, hD1⟩ := hB
  rw [ht] at hP1
  try dsimp only at w2
  obtain ⟨hP, hD⟩ := va_join (wr := []) (w1 := [(xa38, .inr (4, [.ref xa39, .ref xa40, .int 0])), (xa39, .inl (kJ, 23, .inr (.inl g_3)))]) hP hD [0, 1] [] rfl rfl (by decide) (by decide) hk1 hFc hP1 hD1
  generalize H1 = H at hP hS ⊢
  have hP : va_P (dC, dI) vwCl [(xa38, .inr (4, [.ref xa39, .ref xa40, .int 0])), (xa39, .inl (kJ, 23, .inr (.inl g_3)))] H := hP
  have hD : va_D A [(xa38, .inr (4, [.ref xa39, .ref xa40, .int 0])), (xa39, .inl (kJ, 23, .inr (.inl g_3)))] := hD
  refine W.widen (k := 0) (n := 0) (Nat.le_of_ble_eq_true rfl) (Nat.le_of_ble_eq_true rfl) ?_
  refine lv_iconst (v := 0) hx hb dX4_missed_23 (by decide) ?_
  refine lv_istore_n (lv' := [(3, .int 0), (0, .ref xa38), (1, .int (nI k)), (2, .int 5)]) hx hb dX4_missed_24 rfl hl (by decide) rfl (fun ls hl => ?_)
  have hloop25 : ∀ (n : Nat) (i : Nat) (fa : Nat → Int64) (H : Heap) (locs : List Loc) (ls : Array Slot), i + n = k → fa 0 = kv5 i 0 → fa 1 = kv5 i 1 → fa 2 = kv5 i 2 → fa 3 = kv5 i 3 → fa 4 = kv5 i 4 → fa 5 = kv5 i 5 → va_P (dC, dI) vwCl [(xa38, .inr (4, [.ref xa39, .ref xa40, .int 0])), (xa39, .inl (kJ, 23, .inr (.inl fa)))] H → va_D A [(xa38, .inr (4, [.ref xa39, .ref xa40, .int 0])), (xa39, .inl (kJ, 23, .inr (.inl fa)))] → va_S A s.heap H locs → lv_has ls 4 [(3, .int (nI i)), (0, .ref xa38), (1, .int (nI k)), (2, .int 5)] → W p l e (headSpec wsX4_missed rm_k4_missed_5).room s m args0 below meth c H locs 0 0 (MQ below (va_Ql (fun (r : Int64) (_ : Unit) => r = 1000000000000 - kv5 k 5) (fun _ t => va_P (dC, dI) vwCl [] t.heap ∧ va_D A []) A) args0 s 0 0 A) (F0 m 25 ls []) := by
    intro n
    induction n with
    | zero =>
      intro i fa H locs ls hi hf0 hf1 hf2 hf3 hf4 hf5 hP hD hS hl
      refine lv_iload_n hx hb dX4_missed_25 rfl (lv_at hl 0 rfl) ?_
      refine lv_iload_n hx hb dX4_missed_26 rfl (lv_at hl 2 rfl) ?_
      refine lv_icmp_ge (tgt := 54) hx hb dX4_missed_27 (by decide) (fun _ => ?_) (fun c9 => absurd (nI_le (by omega) (by omega)) c9)
      refine lv_ldc2 hx hb hown (hts (.constantLong RX4 23 (1000000000000)) (List.mem_of_getElem? (i := 2) (by decide +kernel))) dX4_missed_54 ?_
      refine lv_aload_n hx hb dX4_missed_57 rfl (lv_at hl 1 rfl) ?_
      refine va_get (D := (dC, dI)) (ci := 4) (v := .ref xa39) (C := RX4) (T := TX4) (N := 3) hx hb hts hin4 hown hK hP 0 rfl rfl 0 (by decide) (hts (.fieldLink RX4 9 "PathProber$Odds" "met" "[J") (List.mem_of_getElem? (i := 1) (by decide +kernel))) (fun _ h9 => h9) rfl dX4_missed_58 ?_
      refine lv_iload_n hx hb dX4_missed_61 rfl (lv_at hl 3 rfl) ?_
      refine va_lald hx hb hK hP 1 2 rfl rfl (vp_in_nI (n := 5) (by decide) (by decide)) dX4_missed_62 ?_
      refine lv_topl (fun z10 e11 => ?_)
      obtain rfl : z10 = (fa 5 : Int64) := e11
      refine lv_lsub hx hb dX4_missed_63 ?_
      have hP9 := hP.sub (ws' := []) [] rfl
      have hD9 := hD.sub (ws' := []) [] (by decide) rfl
      exact W.lret (v := 1000000000000 - (fa 5)) hx hb hr (fun t ht hW => ⟨⟨1000000000000 - (fa 5), (), rfl, by have h9 : i = k := (by omega); subst h9; rw [hf5], by rw [ht]; exact hP9, hD9⟩, hS.F ht⟩) hS.2.2 dX4_missed_64
    | succ n ih =>
      intro i fa H locs ls hi hf0 hf1 hf2 hf3 hf4 hf5 hP hD hS hl
      refine lv_iload_n hx hb dX4_missed_25 rfl (lv_at hl 0 rfl) ?_
      refine lv_iload_n hx hb dX4_missed_26 rfl (lv_at hl 2 rfl) ?_
      refine lv_icmp_ge (tgt := 54) hx hb dX4_missed_27 (by decide) (fun c9 => absurd c9 (nI_ge (by omega) (by omega))) (fun _ => ?_)
      refine lv_aload_n hx hb dX4_missed_30 rfl (lv_at hl 1 rfl) ?_
      refine va_get (D := (dC, dI)) (ci := 4) (v := .ref xa39) (C := RX4) (T := TX4) (N := 3) hx hb hts hin4 hown hK hP 0 rfl rfl 0 (by decide) (hts (.fieldLink RX4 9 "PathProber$Odds" "met" "[J") (List.mem_of_getElem? (i := 1) (by decide +kernel))) (fun _ h9 => h9) rfl dX4_missed_31 ?_
      refine lv_iload_n hx hb dX4_missed_34 rfl (lv_at hl 3 rfl) ?_
      refine va_lald hx hb hK hP 1 2 rfl rfl (vp_in_nI (n := 5) (by decide) (by decide)) dX4_missed_35 ?_
      refine lv_topl (fun z12 e13 => ?_)
      obtain rfl : z12 = (fa 5 : Int64) := e13
      refine lv_ldc2 hx hb hown (hts (.constantLong RX4 23 (1000000000000)) (List.mem_of_getElem? (i := 2) (by decide +kernel))) dX4_missed_36 ?_
      refine W.lcmp hx hb dX4_missed_39 ?_
      refine lv_if_ge (tgt := 54) hx hb dX4_missed_40 (by decide) (fun c14 => ?_) (fun c14 => ?_)
      · refine lv_ldc2 hx hb hown (hts (.constantLong RX4 23 (1000000000000)) (List.mem_of_getElem? (i := 2) (by decide +kernel))) dX4_missed_54 ?_
        refine lv_aload_n hx hb dX4_missed_57 rfl (lv_at hl 1 rfl) ?_
        refine va_get (D := (dC, dI)) (ci := 4) (v := .ref xa39) (C := RX4) (T := TX4) (N := 3) hx hb hts hin4 hown hK hP 0 rfl rfl 0 (by decide) (hts (.fieldLink RX4 9 "PathProber$Odds" "met" "[J") (List.mem_of_getElem? (i := 1) (by decide +kernel))) (fun _ h9 => h9) rfl dX4_missed_58 ?_
        refine lv_iload_n hx hb dX4_missed_61 rfl (lv_at hl 3 rfl) ?_
        refine va_lald hx hb hK hP 1 2 rfl rfl (vp_in_nI (n := 5) (by decide) (by decide)) dX4_missed_62 ?_
        refine lv_topl (fun z15 e16 => ?_)
        obtain rfl : z15 = (fa 5 : Int64) := e16
        refine lv_lsub hx hb dX4_missed_63 ?_
        have hP9 := hP.sub (ws' := []) [] rfl
        have hD9 := hD.sub (ws' := []) [] (by decide) rfl
        exact W.lret (v := 1000000000000 - (fa 5)) hx hb hr (fun t ht hW => ⟨⟨1000000000000 - (fa 5), (), rfl, by have h9 := kn_cmp c14; rw [hf5] at h9; have h8 := kvq5 h9 (k - i) (by omega); rw [show i + (k - i) = k by omega] at h8; rw [hf5, h8], by rw [ht]; exact hP9, hD9⟩, hS.F ht⟩) hS.2.2 dX4_missed_64
      · refine lv_aload_n hx hb dX4_missed_43 rfl (lv_at hl 1 rfl) ?_
        refine lv_iload_n hx hb dX4_missed_44 rfl (lv_at hl 3 rfl) ?_
        have hPc := hP.sub (ws' := [(xa38, .inr (4, [.ref xa39, .ref xa40, .int 0])), (xa39, .inl (kJ, 23, .inr (.inl fa)))]) [0, 1] rfl
        have hDc := hD.sub (ws' := [(xa38, .inr (4, [.ref xa39, .ref xa40, .int 0])), (xa39, .inl (kJ, 23, .inr (.inl fa)))]) [0, 1] (by decide) rfl
        have hFc := va_free (wc := [(xa38, .inr (4, [.ref xa39, .ref xa40, .int 0])), (xa39, .inl (kJ, 23, .inr (.inl fa)))]) hD hS hA [0, 1] rfl
        refine va_callv (va_runV (As := [.int 5]) (rest := []) ⟨hx, hb, hml, hown, hts⟩ (k4_sendNext_5 l dC dI kB kI kJ kZ kC kS H.size xa38 xa39 xa40 fa) (cwV 1 hts gX4_missed_X4_sendNext rfl rfl rfl (by decide +kernel) ⟨Nat.le_of_ble_eq_true rfl, Nat.le_of_ble_eq_true rfl⟩) ⟨fun a U g mk q => by obtain ⟨q0, q1, qP, qE, qD⟩ := q; exact ⟨q0, q1, qP, kE_call qE, qD⟩, va_recv hK hP (ci := 4) (q0 := 0) rfl rfl, fun U hU hW => ⟨rfl, by rw [hU], by rw [hU]; exact hPc, kE_warm hW hE, hDc.weaken (fun _ _ _ _ => trivial)⟩⟩ rfl rfl hl.1 rfl (lv_room (Nat.le_of_ble_eq_true rfl)) dX4_missed_45 ⟨Nat.le_of_ble_eq_true rfl, Nat.le_of_ble_eq_true rfl⟩) hS (fun q _ h => hFc q h) hFc (fun u t H1 locs ht hvm w18 hB hz1 hk1 hS => ?_)
        obtain ⟨g_19, f20, f21, f22, f23, f24, f25, hP1, hD1⟩ := hB
        rw [ht] at hP1
        try dsimp only at w18
        obtain ⟨hP, hD⟩ := va_join (wr := []) (w1 := [(xa38, .inr (4, [.ref xa39, .ref xa40, .int 0])), (xa39, .inl (kJ, 23, .inr (.inl g_19)))]) hP hD [0, 1] [] rfl rfl (by decide) (by decide) hk1 hFc hP1 hD1
        generalize H1 = H at hP hS ⊢
        have hP : va_P (dC, dI) vwCl [(xa38, .inr (4, [.ref xa39, .ref xa40, .int 0])), (xa39, .inl (kJ, 23, .inr (.inl g_19)))] H := hP
        have hD : va_D A [(xa38, .inr (4, [.ref xa39, .ref xa40, .int 0])), (xa39, .inl (kJ, 23, .inr (.inl g_19)))] := hD
        refine W.widen (k := 0) (n := 0) (Nat.le_of_ble_eq_true rfl) (Nat.le_of_ble_eq_true rfl) ?_
        refine lv_iinc (v := nI (i + 1)) (lv' := [(3, .int (nI (i + 1))), (0, .ref xa38), (1, .int (nI k)), (2, .int 5)]) hx hb dX4_missed_48 hl (k := 0) rfl (nI_1 i) (by decide) rfl (fun ls hl => ?_)
        refine lv_goto (tgt := 25) hx hb dX4_missed_51 (by decide) ?_
        exact ih (i + 1) g_19 _ _ _ (by omega) (by rw [f20, hf0]; exact kvs5_0 i (by omega)) (by rw [f21, hf0, hf1]; exact kvs5_1 i (by omega)) (by rw [f22, hf1, hf2]; exact kvs5_2 i (by omega)) (by rw [f23, hf2, hf3]; exact kvs5_3 i (by omega)) (by rw [f24, hf3, hf4]; exact kvs5_4 i (by omega)) (by rw [f25, hf4, hf5]; exact kvs5_5 i (by omega)) (hP.sub [0, 1] rfl) (hD.sub [0, 1] (by decide) rfl) hS (lv_sub hl [0, 1, 2, 3] rfl)
  exact hloop25 k 0 g_3 _ _ _ (Nat.zero_add _) (f4) (f5) (f6) (f7) (f8) (f9) hP hD hS (lv_sub hl [0, 1, 2, 3] rfl)

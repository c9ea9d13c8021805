/-! OWN: the lands that the law comes to -/
def tT0 : Nat := 0
def tH0 : Nat := 5555555555555555555555555555555555555555555555555555555555555555555555555555555555555555555555555555555555555555555555555555555555555555555555555555555555555555555555555555555555555555555555555555555555555555555555555555555555555555555555555555555555555555
def tC0 : Nat := 118174566922251141222400
def LN0 : LdS := (tb tT0, tbH tH0, tbC tC0, 2, 1, 0, 0, 0)
theorem ok0 : lOKs LN0 := ⟨tb_lt _, tbH_lt _, tbC_ok (by decide +kernel), by decide, by decide⟩
set_option maxRecDepth 100000 in
theorem pl_tT0 : PL (tb tT0) [0] [0] [0] [16] [0] := PL_of (by decide +kernel) (by decide) (by decide +kernel) (by decide +kernel) (by decide +kernel) (by decide +kernel)
def tT1 : Nat := 335506063255685026496511311399633833405315070776087481935841014158373412599591888821729970853457448027853385
def LN1 : LdS := (tb tT1, tbH tH0, tbC tC0, 2, 1, 0, 0, 0)
theorem ok1 : lOKs LN1 := ⟨tb_lt _, tbH_lt _, tbC_ok (by decide +kernel), by decide, by decide⟩
set_option maxRecDepth 100000 in
theorem pl_tT1 : PL (tb tT1) [0, 64, 128, 192] [0, 8, 0, 8] [0, 0, 8, 8] [8, 8, 8, 8] [1, 0, 0, 0] := PL_of (by decide +kernel) (by decide) (by decide +kernel) (by decide +kernel) (by decide +kernel) (by decide +kernel)
def tT2 : Nat := 335506063255685026496511311399633833405315070776087482373589984571727009856714638274007527140020395832545865
def LN2 : LdS := (tb tT2, tbH tH0, tbC tC0, 2, 1, 0, 0, 0)
theorem ok2 : lOKs LN2 := ⟨tb_lt _, tbH_lt _, tbC_ok (by decide +kernel), by decide, by decide⟩
set_option maxRecDepth 100000 in
theorem pl_tT2 : PL (tb tT2) [0, 64, 80, 96, 112, 128, 192] [0, 8, 12, 8, 12, 0, 8] [0, 0, 0, 4, 4, 8, 8] [8, 4, 4, 4, 4, 8, 8] [1, 2, 0, 0, 0, 0, 0] := PL_of (by decide +kernel) (by decide) (by decide +kernel) (by decide +kernel) (by decide +kernel) (by decide +kernel)
def tT3 : Nat := 335506063255685026496511311399633833405315070776090171903264204216228557618887273067313351782771707863142985
def tC1 : Nat := 118174566922216781484064
def LN3 : LdS := (tb tT3, tbH tH0, tbC tC1, 2, 1, 1, 0, 0)
theorem ok3 : lOKs LN3 := ⟨tb_lt _, tbH_lt _, tbC_ok (by decide +kernel), by decide, by decide⟩
set_option maxRecDepth 100000 in
theorem pl_tT3 : PL (tb tT3) [0, 64, 80, 96, 112, 128, 192] [0, 8, 12, 8, 12, 0, 8] [0, 0, 0, 4, 4, 8, 8] [8, 4, 4, 4, 4, 8, 8] [1, 2, 3, 0, 0, 0, 0] := PL_of (by decide +kernel) (by decide) (by decide +kernel) (by decide +kernel) (by decide +kernel) (by decide +kernel)
def tT4 : Nat := 335506063255685026496511312199988754213647456975687871327355867084778150729467461875619987271471126330774089
def tC2 : Nat := 118174566922208191549480
def LN4 : LdS := (tb tT4, tbH tH0, tbC tC2, 2, 1, 2, 0, 0)
theorem ok4 : lOKs LN4 := ⟨tb_lt _, tbH_lt _, tbC_ok (by decide +kernel), by decide, by decide⟩
set_option maxRecDepth 100000 in
theorem pl_tT4 : PL (tb tT4) [0, 64, 80, 96, 100, 104, 108, 112, 128, 192] [0, 8, 12, 8, 10, 8, 10, 12, 0, 8] [0, 0, 0, 4, 4, 6, 6, 4, 8, 8] [8, 4, 4, 2, 2, 2, 2, 4, 8, 8] [1, 2, 3, 3, 0, 0, 0, 0, 0, 0] := PL_of (by decide +kernel) (by decide) (by decide +kernel) (by decide +kernel) (by decide +kernel) (by decide +kernel)
def tT5 : Nat := 335506063255685026496511311666418807008092532842622738377961425172411755322414002670082230279004847352353353
def tC3 : Nat := 118174566922216781475880
def LN5 : LdS := (tb tT5, tbH tH0, tbC tC3, 2, 1, 3, 0, 0)
theorem ok5 : lOKs LN5 := ⟨tb_lt _, tbH_lt _, tbC_ok (by decide +kernel), by decide, by decide⟩
set_option maxRecDepth 100000 in
theorem pl_tT5 : PL (tb tT5) [0, 64, 80, 96, 100, 104, 108, 112, 128, 192] [0, 8, 12, 8, 10, 8, 10, 12, 0, 8] [0, 0, 0, 4, 4, 6, 6, 4, 8, 8] [8, 4, 4, 2, 2, 2, 2, 4, 8, 8] [1, 2, 3, 1, 0, 0, 0, 0, 0, 0] := PL_of (by decide +kernel) (by decide) (by decide +kernel) (by decide +kernel) (by decide +kernel) (by decide +kernel)
def tC4 : Nat := 118174566922216781473834
def tC5 : Nat := 118174566922216780425259
def tC6 : Nat := 118174566922215706683436
def LN6 : LdS := (tb tT5, tbH tH0, tbC tC6, 2, 1, 3, 0, 0)
theorem ok6 : lOKs LN6 := ⟨tb_lt _, tbH_lt _, tbC_ok (by decide +kernel), by decide, by decide⟩
def tH1 : Nat := 5555555555555555555555555555555555555555555555555555555555555555555555555555555555555555555555555555555555555555555555555555555555555555555555555555555555555555555555555555555555555555555555555555555555555555555555555555555555555555555555225555555555555522
def LN7 : LdS := (tb tT5, tbH tH1, tbC tC6, 2, 1, 3, 0, 0)
theorem ok7 : lOKs LN7 := ⟨tb_lt _, tbH_lt _, tbC_ok (by decide +kernel), by decide, by decide⟩
def tH2 : Nat := 9955555555555555995555555555555555555555555555555555555555555555555555555555555555555555555555555555555555555555555555555555555555555555555555555555555555555555555555555555555555555555555555555555555555555555555555555555555555555555555555225555555555555522
def LN8 : LdS := (tb tT5, tbH tH2, tbC tC6, 2, 1, 3, 0, 0)
theorem ok8 : lOKs LN8 := ⟨tb_lt _, tbH_lt _, tbC_ok (by decide +kernel), by decide, by decide⟩
def tT6 : Nat := 335506063255685026496511311666418807008092532842622738377961425172411755322414002670082230276471572561957440
def LN9 : LdS := (tb tT6, tbH tH2, tbC tC6, 2, 1, 3, 0, 0)
theorem ok9 : lOKs LN9 := ⟨tb_lt _, tbH_lt _, tbC_ok (by decide +kernel), by decide, by decide⟩
set_option maxRecDepth 100000 in
theorem pl_tT6 : PL (tb tT6) [0, 4, 8, 12, 16, 32, 48, 64, 80, 96, 100, 104, 108, 112, 128, 192] [0, 2, 0, 2, 4, 0, 4, 8, 12, 8, 10, 8, 10, 12, 0, 8] [0, 0, 2, 2, 0, 4, 4, 0, 0, 4, 4, 6, 6, 4, 8, 8] [2, 2, 2, 2, 4, 4, 4, 4, 4, 2, 2, 2, 2, 4, 8, 8] [0, 1, 1, 1, 1, 1, 1, 2, 3, 1, 0, 0, 0, 0, 0, 0] := PL_of (by decide +kernel) (by decide) (by decide +kernel) (by decide +kernel) (by decide +kernel) (by decide +kernel)
def LN10 : LdS := (tb tT6, tbH tH2, tbC tC6, 2, 1, 3, 1, 0)
theorem ok10 : lOKs LN10 := ⟨tb_lt _, tbH_lt _, tbC_ok (by decide +kernel), by decide, by decide⟩
def LN11 : LdS := (tb tT6, tbH tH2, tbC tC6, 2, 9, 3, 1, 0)
theorem ok11 : lOKs LN11 := ⟨tb_lt _, tbH_lt _, tbC_ok (by decide +kernel), by decide, by decide⟩
def LN12 : LdS := (tb tT6, tbH tH2, tbC tC6, 9, 9, 3, 1, 0)
theorem ok12 : lOKs LN12 := ⟨tb_lt _, tbH_lt _, tbC_ok (by decide +kernel), by decide, by decide⟩
def tT7 : Nat := 1674636420777084225329361165611688520451817674989435777842366516250174574185268907734043269071796093510213221221070984510048418935114863168
def tC7 : Nat := 118174566922215706646608
def LN13 : LdS := (tb tT7, tbH tH2, tbC tC7, 9, 9, 4, 1, 0)
theorem ok13 : lOKs LN13 := ⟨tb_lt _, tbH_lt _, tbC_ok (by decide +kernel), by decide, by decide⟩
set_option maxRecDepth 100000 in
theorem pl_tT7 : PL (tb tT7) [0, 4, 8, 12, 16, 32, 48, 64, 80, 96, 100, 104, 108, 112, 128, 192, 196, 200, 204, 208, 224, 240] [0, 2, 0, 2, 4, 0, 4, 8, 12, 8, 10, 8, 10, 12, 0, 8, 10, 8, 10, 12, 8, 12] [0, 0, 2, 2, 0, 4, 4, 0, 0, 4, 4, 6, 6, 4, 8, 8, 8, 10, 10, 8, 12, 12] [2, 2, 2, 2, 4, 4, 4, 4, 4, 2, 2, 2, 2, 4, 8, 2, 2, 2, 2, 4, 4, 4] [0, 1, 1, 1, 1, 1, 1, 2, 3, 1, 0, 0, 0, 0, 0, 1, 0, 0, 0, 0, 0, 0] := PL_of (by decide +kernel) (by decide) (by decide +kernel) (by decide +kernel) (by decide +kernel) (by decide +kernel)
def tT8 : Nat := 335506063255685026496511311399633833405315070776090171903264204216228557618887273067313351780238433072747072
def tC8 : Nat := 118174566922215706591366
def tC9 : Nat := 118174566922215697154191
def tC10 : Nat := 118174566922206033477784
def LN14 : LdS := (tb tT8, tbH tH2, tbC tC10, 9, 9, 4, 1, 2)
theorem ok14 : lOKs LN14 := ⟨tb_lt _, tbH_lt _, tbC_ok (by decide +kernel), by decide, by decide⟩
set_option maxRecDepth 100000 in
theorem pl_tT8 : PL (tb tT8) [0, 4, 8, 12, 16, 32, 48, 64, 80, 96, 112, 128, 192] [0, 2, 0, 2, 4, 0, 4, 8, 12, 8, 12, 0, 8] [0, 0, 2, 2, 0, 4, 4, 0, 0, 4, 4, 8, 8] [2, 2, 2, 2, 4, 4, 4, 4, 4, 4, 4, 8, 8] [0, 1, 1, 1, 1, 1, 1, 2, 3, 0, 0, 0, 0] := PL_of (by decide +kernel) (by decide) (by decide +kernel) (by decide +kernel) (by decide +kernel) (by decide +kernel)
def tT9 : Nat := 335506063255685026496511311399633833405315070776090171903264191370999323265202708121131410476328324312633920
def tT10 : Nat := 335506063255685026496511311399633833405315070776090171903264191170292616478426386793847317643454728863257152
def tT11 : Nat := 335506063255685026496511311399633833405315070776090171903264191170292616478426386793847317481325142277918720
def tT12 : Nat := 81890667135876257382599783109503010350333187890434044102398133598155580703168570034052814765881108500480
def tT13 : Nat := 2689967476626211470056347085560362459879654446896913879040
def tT14 : Nat := 2689967423190057855145019295384245583380929314259835289600
def tC11 : Nat := 118174566922206024040609
def tC12 : Nat := 118174566922196360364202
def LN15 : LdS := (tb tT14, tbH tH2, tbC tC12, 9, 9, 4, 1, 8)
theorem ok15 : lOKs LN15 := ⟨tb_lt _, tbH_lt _, tbC_ok (by decide +kernel), by decide, by decide⟩
set_option maxRecDepth 100000 in
theorem pl_tT14 : PL (tb tT14) [0, 64, 80, 96, 112, 128, 192] [0, 8, 12, 8, 12, 0, 8] [0, 0, 0, 4, 4, 8, 8] [8, 4, 4, 4, 4, 8, 8] [0, 2, 3, 0, 0, 0, 0] := PL_of (by decide +kernel) (by decide) (by decide +kernel) (by decide +kernel) (by decide +kernel) (by decide +kernel)
def tT15 : Nat := 1108941494500506382249271063187501825183490012226211865099322884304322109061697775950627434877604627107491236212236480861551128602939153136745919482172272242288896411443464218250189489736856032018044999424083191964923462038440041325
def LN16 : LdS := (tb tT15, tbH tH2, tbC tC6, 2, 1, 3, 0, 0)
theorem ok16 : lOKs LN16 := ⟨tb_lt _, tbH_lt _, tbC_ok (by decide +kernel), by decide, by decide⟩
set_option maxRecDepth 100000 in
theorem pl_tT15 : PL (tb tT15) [0] [0] [0] [16] [5] := PL_of (by decide +kernel) (by decide) (by decide +kernel) (by decide +kernel) (by decide +kernel) (by decide +kernel)
def tH3 : Nat := 0
def LN17 : LdS := (tb tT1, tbH tH3, tbC tC0, 2, 1, 0, 0, 0)
theorem ok17 : lOKs LN17 := ⟨tb_lt _, tbH_lt _, tbC_ok (by decide +kernel), by decide, by decide⟩
def LN18 : LdS := (tb tT0, tbH tH3, tbC tC0, 2, 1, 0, 1, 0)
theorem ok18 : lOKs LN18 := ⟨tb_lt _, tbH_lt _, tbC_ok (by decide +kernel), by decide, by decide⟩
def tT16 : Nat := 335424172588549150239128711616524330394964737588199737859161793036694460897723218223813264666559261169418240
def LN19 : LdS := (tb tT16, tbH tH0, tbC tC0, 2, 1, 0, 0, 0)
theorem ok19 : lOKs LN19 := ⟨tb_lt _, tbH_lt _, tbC_ok (by decide +kernel), by decide, by decide⟩
set_option maxRecDepth 100000 in
theorem pl_tT16 : PL (tb tT16) [0, 16, 32, 48, 64, 128, 192] [0, 4, 0, 4, 8, 0, 8] [0, 0, 4, 4, 0, 8, 8] [4, 4, 4, 4, 8, 8, 8] [0, 0, 0, 1, 0, 0, 0] := PL_of (by decide +kernel) (by decide) (by decide +kernel) (by decide +kernel) (by decide +kernel) (by decide +kernel)
def tT17 : Nat := 26439223966656839027575814586829313233142064317966725115359070203462758073921265391050909930475468657465448201861762097634460226151221839517401777735681582189398686820635165606034159980195473668248773021369947221981197762560
def LN20 : LdS := (tb tT17, tbH tH0, tbC tC0, 2, 1, 0, 0, 0)
theorem ok20 : lOKs LN20 := ⟨tb_lt _, tbH_lt _, tbC_ok (by decide +kernel), by decide, by decide⟩
set_option maxRecDepth 100000 in
theorem pl_tT17 : PL (tb tT17) [0, 16, 32, 48, 64, 128, 192] [0, 4, 0, 4, 8, 0, 8] [0, 0, 4, 4, 0, 8, 8] [4, 4, 4, 4, 8, 8, 8] [0, 0, 0, 1, 0, 2, 0] := PL_of (by decide +kernel) (by decide) (by decide +kernel) (by decide +kernel) (by decide +kernel) (by decide +kernel)
def tH4 : Nat := 5555555555555555555555555555555555555555555555555555555555555555555555555555555555555555555555555555555555555555555555555555555555555555333333335555555533333333555555553333333355555555333333335555555533333333555555553333333355555555333333335555555533333333
def LN21 : LdS := (tb tT17, tbH tH4, tbC tC0, 2, 1, 0, 0, 0)
theorem ok21 : lOKs LN21 := ⟨tb_lt _, tbH_lt _, tbC_ok (by decide +kernel), by decide, by decide⟩
def tT18 : Nat := 26439223966656839027575814586829313233142064317966725115359070203462758073921265391050909930475468657465448201861762097634460226151221839517401777735681582189398686820635165606072695667898534721943611567193858952307478102016
def tC13 : Nat := 118174566922242551287816
def LN22 : LdS := (tb tT18, tbH tH4, tbC tC13, 2, 1, 1, 0, 0)
theorem ok22 : lOKs LN22 := ⟨tb_lt _, tbH_lt _, tbC_ok (by decide +kernel), by decide, by decide⟩
set_option maxRecDepth 100000 in
theorem pl_tT18 : PL (tb tT18) [0, 4, 8, 12, 16, 32, 48, 64, 128, 192] [0, 2, 0, 2, 4, 0, 4, 8, 0, 8] [0, 0, 2, 2, 0, 4, 4, 0, 8, 8] [2, 2, 2, 2, 4, 4, 4, 8, 8, 8] [0, 0, 0, 3, 0, 0, 1, 0, 2, 0] := PL_of (by decide +kernel) (by decide) (by decide +kernel) (by decide +kernel) (by decide +kernel) (by decide +kernel)
set_option maxRecDepth 100000 in
theorem S00_eq : S00 = (LN0, [], KN0, BU0, 0) := by
  have e1 : (fun _ => 0 : Nat → Nat) = tb tT0 := tb_ext (by decide +kernel) (fun _ _ => rfl)
  have e2 : (fun _ => 5 : Nat → Nat) = tbH tH0 := tbH_ext (by decide +kernel) (fun _ _ => rfl)
  have e3 : (fun k => if k = 0 then 0 else 100 : Nat → Nat) = tbC tC0 := tbC_ext (by decide +kernel) (fun k hk => if_neg (by omega))
  show (((fun _ => 0, fun _ => 5, fun k => if k = 0 then 0 else 100, 2, 1, 0, 0, 0) : LdS), ([] : List LdS), KN0, BU0, 0) = _
  unfold LN0
  rw [← e1, ← e2, ← e3]

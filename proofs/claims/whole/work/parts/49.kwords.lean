/-! words of the tables for what is made -/
theorem oi_in : Cond.instanceMethod objectInit ∈ ob_good := (ob_mem 87 (by decide +kernel) (by decide +kernel))
theorem oi_cd : Cond.code objectInit ⟨#[0xb1]⟩ 1 none ∈ ob_good := (ob_mem 88 (by decide +kernel) (by decide +kernel))
theorem ac_int : Cond.arrayClass .int ∈ ob_good := (ob_mem 163 (by decide +kernel) (by decide +kernel))
theorem ac_byte : Cond.arrayClass .byte ∈ ob_good := (ob_mem 162 (by decide +kernel) (by decide +kernel))
theorem ac_boolean : Cond.arrayClass .boolean ∈ ob_good := (ob_mem 1066 (by decide +kernel) (by decide +kernel))
theorem ac_long : Cond.arrayClass .long ∈ ob_good := (ob_mem 298 (by decide +kernel) (by decide +kernel))
theorem oi_X0 : Cond.methodLink RX0 3 objectInit ∈ ob_good := (ob_mem 269 (by decide +kernel) (by decide +kernel))
theorem fk_X0_9 : Cond.fieldLink RX0 9 "OwnBirthdays$CoinSearch" "years" "[I" ∈ ob_good := (ob_mem 270 (by decide +kernel) (by decide +kernel))
theorem fk_X0_15 : Cond.fieldLink RX0 15 "OwnBirthdays$CoinSearch" "sum" "[I" ∈ ob_good := (ob_mem 271 (by decide +kernel) (by decide +kernel))
theorem oi_X7 : Cond.methodLink RX7 3 objectInit ∈ ob_good := (ob_mem 249 (by decide +kernel) (by decide +kernel))
theorem fk_X7_9 : Cond.fieldLink RX7 9 "OwnBirthdays$ToldAges" "person" "[I" ∈ ob_good := (ob_mem 250 (by decide +kernel) (by decide +kernel))
theorem fk_X7_15 : Cond.fieldLink RX7 15 "OwnBirthdays$ToldAges" "days" "[I" ∈ ob_good := (ob_mem 251 (by decide +kernel) (by decide +kernel))
theorem fk_X7_18 : Cond.fieldLink RX7 18 "OwnBirthdays$ToldAges" "age" "[I" ∈ ob_good := (ob_mem 252 (by decide +kernel) (by decide +kernel))
theorem oi_X4 : Cond.methodLink RX4 3 objectInit ∈ ob_good := (ob_mem 290 (by decide +kernel) (by decide +kernel))
theorem fk_X4_9 : Cond.fieldLink RX4 9 "OwnBirthdays$LifePlan" "best" "[I" ∈ ob_good := (ob_mem 291 (by decide +kernel) (by decide +kernel))
theorem fk_X4_15 : Cond.fieldLink RX4 15 "OwnBirthdays$LifePlan" "ageing" "[J" ∈ ob_good := (ob_mem 292 (by decide +kernel) (by decide +kernel))
theorem oi_X1 : Cond.methodLink RX1 5 objectInit ∈ ob_good := (ob_mem 304 (by decide +kernel) (by decide +kernel))
theorem fk_X1_11 : Cond.fieldLink RX1 11 "OwnBirthdays$Giving" "years" "[I" ∈ ob_good := (ob_mem 305 (by decide +kernel) (by decide +kernel))
theorem fk_X1_17 : Cond.fieldLink RX1 17 "OwnBirthdays$Giving" "more" "[J" ∈ ob_good := (ob_mem 306 (by decide +kernel) (by decide +kernel))
theorem fk_X1_21 : Cond.fieldLink RX1 21 "OwnBirthdays$Giving" "enough" "[I" ∈ ob_good := (ob_mem 307 (by decide +kernel) (by decide +kernel))
theorem fk_X1_24 : Cond.fieldLink RX1 24 "OwnBirthdays$Giving" "best" "[J" ∈ ob_good := (ob_mem 308 (by decide +kernel) (by decide +kernel))
theorem oi_X5 : Cond.methodLink RX5 3 objectInit ∈ ob_good := (ob_mem 332 (by decide +kernel) (by decide +kernel))
theorem fk_X5_9 : Cond.fieldLink RX5 9 "OwnBirthdays$Resting" "owner" "[I" ∈ ob_good := (ob_mem 333 (by decide +kernel) (by decide +kernel))
theorem fk_X5_15 : Cond.fieldLink RX5 15 "OwnBirthdays$Resting" "owned" "[I" ∈ ob_good := (ob_mem 335 (by decide +kernel) (by decide +kernel))
theorem oi_X6 : Cond.methodLink RX6 3 objectInit ∈ ob_good := (ob_mem 199 (by decide +kernel) (by decide +kernel))
theorem fk_X6_9 : Cond.fieldLink RX6 9 "OwnBirthdays$State" "land" "LOwnBirthdays$Land;" ∈ ob_good := (ob_mem 200 (by decide +kernel) (by decide +kernel))
theorem fk_X6_15 : Cond.fieldLink RX6 15 "OwnBirthdays$State" "age" "[I" ∈ ob_good := (ob_mem 204 (by decide +kernel) (by decide +kernel))
theorem fk_X6_19 : Cond.fieldLink RX6 19 "OwnBirthdays$State" "purse" "[I" ∈ ob_good := (ob_mem 208 (by decide +kernel) (by decide +kernel))
theorem fk_X6_22 : Cond.fieldLink RX6 22 "OwnBirthdays$State" "owner" "[I" ∈ ob_good := (ob_mem 210 (by decide +kernel) (by decide +kernel))
theorem fk_X6_25 : Cond.fieldLink RX6 25 "OwnBirthdays$State" "borrower" "[I" ∈ ob_good := (ob_mem 214 (by decide +kernel) (by decide +kernel))
theorem fk_X6_28 : Cond.fieldLink RX6 28 "OwnBirthdays$State" "lentTill" "[I" ∈ ob_good := (ob_mem 216 (by decide +kernel) (by decide +kernel))
theorem oi_X2 : Cond.methodLink RX2 3 objectInit ∈ ob_good := (ob_mem 100 (by decide +kernel) (by decide +kernel))
theorem fk_X2_9 : Cond.fieldLink RX2 9 "OwnBirthdays$Land" "startAge" "[I" ∈ ob_good := (ob_mem 108 (by decide +kernel) (by decide +kernel))
theorem fk_X2_15 : Cond.fieldLink RX2 15 "OwnBirthdays$Land" "startPurse" "[I" ∈ ob_good := (ob_mem 110 (by decide +kernel) (by decide +kernel))
theorem fk_X2_18 : Cond.fieldLink RX2 18 "OwnBirthdays$Land" "dayOf" "[I" ∈ ob_good := (ob_mem 112 (by decide +kernel) (by decide +kernel))
theorem fk_X2_21 : Cond.fieldLink RX2 21 "OwnBirthdays$Land" "startOwner" "[I" ∈ ob_good := (ob_mem 115 (by decide +kernel) (by decide +kernel))
theorem fk_X2_24 : Cond.fieldLink RX2 24 "OwnBirthdays$Land" "price" "[I" ∈ ob_good := (ob_mem 117 (by decide +kernel) (by decide +kernel))
theorem fk_X2_27 : Cond.fieldLink RX2 27 "OwnBirthdays$Land" "good" "[I" ∈ ob_good := (ob_mem 121 (by decide +kernel) (by decide +kernel))
theorem lk9_X2_30 : Cond.methodLink RX2 30 yX2_clearAll ∈ ob_good := (ob_mem 101 (by decide +kernel) (by decide +kernel))
theorem oi_X3 : Cond.methodLink RX3 3 objectInit ∈ ob_good := (ob_mem 94 (by decide +kernel) (by decide +kernel))
theorem fk_X3_9 : Cond.fieldLink RX3 9 "OwnBirthdays$LandReader" "text" "[B" ∈ ob_good := (ob_mem 164 (by decide +kernel) (by decide +kernel))
theorem ck_X3_15 : Cond.classLink RX3 15 RX2 ∈ ob_good := (ob_mem 95 (by decide +kernel) (by decide +kernel))
theorem it_2 : Cond.instantiable RX2 10 ∈ ob_good := (ob_mem 96 (by decide +kernel) (by decide +kernel))
theorem ii_2 : Cond.initialized RX2 ∈ ob_good := (ob_mem 65 (by decide +kernel) (by decide +kernel))
theorem lk9_X3_17 : Cond.methodLink RX3 17 yX2_init ∈ ob_good := (ob_mem 97 (by decide +kernel) (by decide +kernel))
theorem im_X2_init : Cond.instanceMethod yX2_init ∈ ob_good := (ob_mem 98 (by decide +kernel) (by decide +kernel))
theorem fk_X3_18 : Cond.fieldLink RX3 18 "OwnBirthdays$LandReader" "draft" "LOwnBirthdays$Land;" ∈ ob_good := (ob_mem 165 (by decide +kernel) (by decide +kernel))
theorem fk_X3_22 : Cond.fieldLink RX3 22 "OwnBirthdays$LandReader" "faultPlace" "I" ∈ ob_good := (ob_mem 171 (by decide +kernel) (by decide +kernel))
theorem oi_X8 : Cond.methodLink RX8 3 objectInit ∈ ob_good := (ob_mem 86 (by decide +kernel) (by decide +kernel))
theorem ck_X8_9 : Cond.classLink RX8 9 RX3 ∈ ob_good := (ob_mem 89 (by decide +kernel) (by decide +kernel))
theorem it_3 : Cond.instantiable RX3 8 ∈ ob_good := (ob_mem 90 (by decide +kernel) (by decide +kernel))
theorem ii_3 : Cond.initialized RX3 ∈ ob_good := (ob_mem 64 (by decide +kernel) (by decide +kernel))
theorem lk9_X8_11 : Cond.methodLink RX8 11 yX3_init ∈ ob_good := (ob_mem 91 (by decide +kernel) (by decide +kernel))
theorem im_X3_init : Cond.instanceMethod yX3_init ∈ ob_good := (ob_mem 92 (by decide +kernel) (by decide +kernel))
theorem fk_X8_12 : Cond.fieldLink RX8 12 "OwnBirthdays" "reader" "LOwnBirthdays$LandReader;" ∈ ob_good := (ob_mem 345 (by decide +kernel) (by decide +kernel))
theorem ck_X8_16 : Cond.classLink RX8 16 RX2 ∈ ob_good := (ob_mem 192 (by decide +kernel) (by decide +kernel))
theorem lk9_X8_18 : Cond.methodLink RX8 18 yX2_init ∈ ob_good := (ob_mem 193 (by decide +kernel) (by decide +kernel))
theorem fk_X8_19 : Cond.fieldLink RX8 19 "OwnBirthdays" "theLand" "LOwnBirthdays$Land;" ∈ ob_good := (ob_mem 346 (by decide +kernel) (by decide +kernel))
theorem ck_X8_23 : Cond.classLink RX8 23 RX6 ∈ ob_good := (ob_mem 194 (by decide +kernel) (by decide +kernel))
theorem it_6 : Cond.instantiable RX6 9 ∈ ob_good := (ob_mem 195 (by decide +kernel) (by decide +kernel))
theorem ii_6 : Cond.initialized RX6 ∈ ob_good := (ob_mem 67 (by decide +kernel) (by decide +kernel))
theorem lk9_X8_25 : Cond.methodLink RX8 25 yX6_init ∈ ob_good := (ob_mem 196 (by decide +kernel) (by decide +kernel))
theorem im_X6_init : Cond.instanceMethod yX6_init ∈ ob_good := (ob_mem 197 (by decide +kernel) (by decide +kernel))
theorem fk_X8_28 : Cond.fieldLink RX8 28 "OwnBirthdays" "now" "LOwnBirthdays$State;" ∈ ob_good := (ob_mem 347 (by decide +kernel) (by decide +kernel))
theorem fk_X8_32 : Cond.fieldLink RX8 32 "OwnBirthdays" "firstImage" "LOwnBirthdays$State;" ∈ ob_good := (ob_mem 348 (by decide +kernel) (by decide +kernel))
theorem fk_X8_35 : Cond.fieldLink RX8 35 "OwnBirthdays" "secondImage" "LOwnBirthdays$State;" ∈ ob_good := (ob_mem 349 (by decide +kernel) (by decide +kernel))
theorem ck_X8_38 : Cond.classLink RX8 38 RX7 ∈ ob_good := (ob_mem 244 (by decide +kernel) (by decide +kernel))
theorem it_7 : Cond.instantiable RX7 4 ∈ ob_good := (ob_mem 245 (by decide +kernel) (by decide +kernel))
theorem ii_7 : Cond.initialized RX7 ∈ ob_good := (ob_mem 68 (by decide +kernel) (by decide +kernel))
theorem lk9_X8_40 : Cond.methodLink RX8 40 yX7_init ∈ ob_good := (ob_mem 246 (by decide +kernel) (by decide +kernel))
theorem im_X7_init : Cond.instanceMethod yX7_init ∈ ob_good := (ob_mem 247 (by decide +kernel) (by decide +kernel))
theorem fk_X8_41 : Cond.fieldLink RX8 41 "OwnBirthdays" "toldAges" "LOwnBirthdays$ToldAges;" ∈ ob_good := (ob_mem 350 (by decide +kernel) (by decide +kernel))
theorem ck_X8_45 : Cond.classLink RX8 45 RX0 ∈ ob_good := (ob_mem 264 (by decide +kernel) (by decide +kernel))
theorem it_0 : Cond.instantiable RX0 4 ∈ ob_good := (ob_mem 265 (by decide +kernel) (by decide +kernel))
theorem ii_0 : Cond.initialized RX0 ∈ ob_good := (ob_mem 69 (by decide +kernel) (by decide +kernel))
theorem lk9_X8_47 : Cond.methodLink RX8 47 yX0_init ∈ ob_good := (ob_mem 266 (by decide +kernel) (by decide +kernel))
theorem im_X0_init : Cond.instanceMethod yX0_init ∈ ob_good := (ob_mem 267 (by decide +kernel) (by decide +kernel))
theorem fk_X8_48 : Cond.fieldLink RX8 48 "OwnBirthdays" "coins" "LOwnBirthdays$CoinSearch;" ∈ ob_good := (ob_mem 351 (by decide +kernel) (by decide +kernel))
theorem ck_X8_52 : Cond.classLink RX8 52 RX4 ∈ ob_good := (ob_mem 285 (by decide +kernel) (by decide +kernel))
theorem it_4 : Cond.instantiable RX4 2 ∈ ob_good := (ob_mem 286 (by decide +kernel) (by decide +kernel))
theorem ii_4 : Cond.initialized RX4 ∈ ob_good := (ob_mem 70 (by decide +kernel) (by decide +kernel))
theorem lk9_X8_54 : Cond.methodLink RX8 54 yX4_init ∈ ob_good := (ob_mem 287 (by decide +kernel) (by decide +kernel))
theorem im_X4_init : Cond.instanceMethod yX4_init ∈ ob_good := (ob_mem 288 (by decide +kernel) (by decide +kernel))
theorem fk_X8_55 : Cond.fieldLink RX8 55 "OwnBirthdays" "lifePlan" "LOwnBirthdays$LifePlan;" ∈ ob_good := (ob_mem 352 (by decide +kernel) (by decide +kernel))
theorem ck_X8_59 : Cond.classLink RX8 59 RX1 ∈ ob_good := (ob_mem 299 (by decide +kernel) (by decide +kernel))
theorem it_1 : Cond.instantiable RX1 7 ∈ ob_good := (ob_mem 300 (by decide +kernel) (by decide +kernel))
theorem ii_1 : Cond.initialized RX1 ∈ ob_good := (ob_mem 71 (by decide +kernel) (by decide +kernel))
theorem lk9_X8_61 : Cond.methodLink RX8 61 yX1_init ∈ ob_good := (ob_mem 301 (by decide +kernel) (by decide +kernel))
theorem im_X1_init : Cond.instanceMethod yX1_init ∈ ob_good := (ob_mem 302 (by decide +kernel) (by decide +kernel))
theorem fk_X8_62 : Cond.fieldLink RX8 62 "OwnBirthdays" "giving" "LOwnBirthdays$Giving;" ∈ ob_good := (ob_mem 353 (by decide +kernel) (by decide +kernel))
theorem ck_X8_66 : Cond.classLink RX8 66 RX5 ∈ ob_good := (ob_mem 327 (by decide +kernel) (by decide +kernel))
theorem it_5 : Cond.instantiable RX5 3 ∈ ob_good := (ob_mem 328 (by decide +kernel) (by decide +kernel))
theorem ii_5 : Cond.initialized RX5 ∈ ob_good := (ob_mem 72 (by decide +kernel) (by decide +kernel))
theorem lk9_X8_68 : Cond.methodLink RX8 68 yX5_init ∈ ob_good := (ob_mem 329 (by decide +kernel) (by decide +kernel))
theorem im_X5_init : Cond.instanceMethod yX5_init ∈ ob_good := (ob_mem 330 (by decide +kernel) (by decide +kernel))
theorem fk_X8_69 : Cond.fieldLink RX8 69 "OwnBirthdays" "resting" "LOwnBirthdays$Resting;" ∈ ob_good := (ob_mem 354 (by decide +kernel) (by decide +kernel))
theorem fk_X8_73 : Cond.fieldLink RX8 73 "OwnBirthdays" "keptImages" "I" ∈ ob_good := (ob_mem 355 (by decide +kernel) (by decide +kernel))
theorem fk_X8_77 : Cond.fieldLink RX8 77 "OwnBirthdays" "faultPlace" "I" ∈ ob_good := (ob_mem 356 (by decide +kernel) (by decide +kernel))
theorem oi_X9 : Cond.methodLink RX9 1 objectInit ∈ ob_good := (ob_mem 920 (by decide +kernel) (by decide +kernel))
theorem fk_X9_7 : Cond.fieldLink RX9 7 "OwnBirthdaysModel" "yearLong" "I" ∈ ob_good := (ob_mem 921 (by decide +kernel) (by decide +kernel))
theorem fk_X9_13 : Cond.fieldLink RX9 13 "OwnBirthdaysModel" "toldAge" "[I" ∈ ob_good := (ob_mem 923 (by decide +kernel) (by decide +kernel))
theorem fk_X9_17 : Cond.fieldLink RX9 17 "OwnBirthdaysModel" "toldPurse" "[I" ∈ ob_good := (ob_mem 924 (by decide +kernel) (by decide +kernel))
theorem fk_X9_20 : Cond.fieldLink RX9 20 "OwnBirthdaysModel" "dayOf" "[I" ∈ ob_good := (ob_mem 926 (by decide +kernel) (by decide +kernel))
theorem fk_X9_23 : Cond.fieldLink RX9 23 "OwnBirthdaysModel" "toldOwner" "[I" ∈ ob_good := (ob_mem 927 (by decide +kernel) (by decide +kernel))
theorem fk_X9_26 : Cond.fieldLink RX9 26 "OwnBirthdaysModel" "priceOf" "[I" ∈ ob_good := (ob_mem 928 (by decide +kernel) (by decide +kernel))
theorem fk_X9_29 : Cond.fieldLink RX9 29 "OwnBirthdaysModel" "goods" "[I" ∈ ob_good := (ob_mem 929 (by decide +kernel) (by decide +kernel))
theorem fk_X9_32 : Cond.fieldLink RX9 32 "OwnBirthdaysModel" "age" "[I" ∈ ob_good := (ob_mem 931 (by decide +kernel) (by decide +kernel))
theorem fk_X9_35 : Cond.fieldLink RX9 35 "OwnBirthdaysModel" "purse" "[I" ∈ ob_good := (ob_mem 932 (by decide +kernel) (by decide +kernel))
theorem fk_X9_38 : Cond.fieldLink RX9 38 "OwnBirthdaysModel" "lives" "[Z" ∈ ob_good := (ob_mem 933 (by decide +kernel) (by decide +kernel))
theorem fk_X9_42 : Cond.fieldLink RX9 42 "OwnBirthdaysModel" "owner" "[I" ∈ ob_good := (ob_mem 934 (by decide +kernel) (by decide +kernel))
theorem fk_X9_45 : Cond.fieldLink RX9 45 "OwnBirthdaysModel" "lentTo" "[I" ∈ ob_good := (ob_mem 935 (by decide +kernel) (by decide +kernel))
theorem fk_X9_48 : Cond.fieldLink RX9 48 "OwnBirthdaysModel" "lentTill" "[I" ∈ ob_good := (ob_mem 936 (by decide +kernel) (by decide +kernel))
theorem fk_X9_51 : Cond.fieldLink RX9 51 "OwnBirthdaysModel" "text" "[I" ∈ ob_good := (ob_mem 938 (by decide +kernel) (by decide +kernel))
theorem fk_X9_54 : Cond.fieldLink RX9 54 "OwnBirthdaysModel" "faultPlace" "I" ∈ ob_good := (ob_mem 940 (by decide +kernel) (by decide +kernel))
theorem fk_X9_57 : Cond.fieldLink RX9 57 "OwnBirthdaysModel" "readAge" "[I" ∈ ob_good := (ob_mem 949 (by decide +kernel) (by decide +kernel))
theorem fk_X9_60 : Cond.fieldLink RX9 60 "OwnBirthdaysModel" "readPurse" "[I" ∈ ob_good := (ob_mem 950 (by decide +kernel) (by decide +kernel))
theorem fk_X9_63 : Cond.fieldLink RX9 63 "OwnBirthdaysModel" "readDay" "[I" ∈ ob_good := (ob_mem 952 (by decide +kernel) (by decide +kernel))
theorem fk_X9_66 : Cond.fieldLink RX9 66 "OwnBirthdaysModel" "readOwner" "[I" ∈ ob_good := (ob_mem 953 (by decide +kernel) (by decide +kernel))
theorem fk_X9_69 : Cond.fieldLink RX9 69 "OwnBirthdaysModel" "readPrice" "[I" ∈ ob_good := (ob_mem 954 (by decide +kernel) (by decide +kernel))
theorem fk_X9_72 : Cond.fieldLink RX9 72 "OwnBirthdaysModel" "readGoods" "[I" ∈ ob_good := (ob_mem 956 (by decide +kernel) (by decide +kernel))
theorem fk_X9_75 : Cond.fieldLink RX9 75 "OwnBirthdaysModel" "most" "[I" ∈ ob_good := (ob_mem 957 (by decide +kernel) (by decide +kernel))
theorem fk_X9_78 : Cond.fieldLink RX9 78 "OwnBirthdaysModel" "givenTo" "[I" ∈ ob_good := (ob_mem 958 (by decide +kernel) (by decide +kernel))
theorem fk_X9_81 : Cond.fieldLink RX9 81 "OwnBirthdaysModel" "times" "[I" ∈ ob_good := (ob_mem 959 (by decide +kernel) (by decide +kernel))
theorem fk_X9_84 : Cond.fieldLink RX9 84 "OwnBirthdaysModel" "spent" "[I" ∈ ob_good := (ob_mem 960 (by decide +kernel) (by decide +kernel))
theorem fk_X9_87 : Cond.fieldLink RX9 87 "OwnBirthdaysModel" "bestGiven" "[I" ∈ ob_good := (ob_mem 961 (by decide +kernel) (by decide +kernel))
theorem fk_X9_90 : Cond.fieldLink RX9 90 "OwnBirthdaysModel" "wasOwner" "[I" ∈ ob_good := (ob_mem 962 (by decide +kernel) (by decide +kernel))
theorem fk_X9_93 : Cond.fieldLink RX9 93 "OwnBirthdaysModel" "toldWho" "[I" ∈ ob_good := (ob_mem 964 (by decide +kernel) (by decide +kernel))
theorem fk_X9_96 : Cond.fieldLink RX9 96 "OwnBirthdaysModel" "toldWhen" "[I" ∈ ob_good := (ob_mem 965 (by decide +kernel) (by decide +kernel))
theorem fk_X9_99 : Cond.fieldLink RX9 99 "OwnBirthdaysModel" "toldOld" "[I" ∈ ob_good := (ob_mem 966 (by decide +kernel) (by decide +kernel))
theorem fk_X9_102 : Cond.fieldLink RX9 102 "OwnBirthdaysModel" "images" "[I" ∈ ob_good := (ob_mem 967 (by decide +kernel) (by decide +kernel))
theorem fk_X9_105 : Cond.fieldLink RX9 105 "OwnBirthdaysModel" "isKept" "[Z" ∈ ob_good := (ob_mem 968 (by decide +kernel) (by decide +kernel))
theorem fk_X9_108 : Cond.fieldLink RX9 108 "OwnBirthdaysModel" "persons" "I" ∈ ob_good := (ob_mem 922 (by decide +kernel) (by decide +kernel))
theorem fk_X2_33 : Cond.fieldLink RX2 33 "OwnBirthdays$Land" "yearDays" "I" ∈ ob_good := (ob_mem 122 (by decide +kernel) (by decide +kernel))
theorem fk_X2_37 : Cond.fieldLink RX2 37 "OwnBirthdays$Land" "persons" "I" ∈ ob_good := (ob_mem 126 (by decide +kernel) (by decide +kernel))
theorem fk_X2_40 : Cond.fieldLink RX2 40 "OwnBirthdays$Land" "birthdays" "I" ∈ ob_good := (ob_mem 132 (by decide +kernel) (by decide +kernel))
theorem fk_X2_43 : Cond.fieldLink RX2 43 "OwnBirthdays$Land" "goods" "I" ∈ ob_good := (ob_mem 139 (by decide +kernel) (by decide +kernel))
theorem lk9_X2_46 : Cond.methodLink RX2 46 yJ7_fill_53178 ∈ ob_good := (ob_mem 105 (by decide +kernel) (by decide +kernel))
theorem kf_0 : ∀ j, j < 4 → defaultValue (tyX0 j) = vp_V [.null, .null, .int 0, .int 0] j := by
  intro j hj
  match j, hj with
  | 0, _ => rfl
  | 1, _ => rfl
  | 2, _ => rfl
  | 3, _ => rfl
  | k + 4, h => exact absurd h (by omega)
theorem kf_1 : ∀ j, j < 7 → defaultValue (tyX1 j) = vp_V [.null, .null, .null, .null, .int 0, .int 0, .long 0] j := by
  intro j hj
  match j, hj with
  | 0, _ => rfl
  | 1, _ => rfl
  | 2, _ => rfl
  | 3, _ => rfl
  | 4, _ => rfl
  | 5, _ => rfl
  | 6, _ => rfl
  | k + 7, h => exact absurd h (by omega)
theorem kf_2 : ∀ j, j < 10 → defaultValue (tyX2 j) = vp_V [.null, .null, .null, .null, .null, .null, .int 0, .int 0, .int 0, .int 0] j := by
  intro j hj
  match j, hj with
  | 0, _ => rfl
  | 1, _ => rfl
  | 2, _ => rfl
  | 3, _ => rfl
  | 4, _ => rfl
  | 5, _ => rfl
  | 6, _ => rfl
  | 7, _ => rfl
  | 8, _ => rfl
  | 9, _ => rfl
  | k + 10, h => exact absurd h (by omega)
theorem kf_3 : ∀ j, j < 8 → defaultValue (tyX3 j) = vp_V [.null, .null, .int 0, .int 0, .int 0, .int 0, .int 0, .int 0] j := by
  intro j hj
  match j, hj with
  | 0, _ => rfl
  | 1, _ => rfl
  | 2, _ => rfl
  | 3, _ => rfl
  | 4, _ => rfl
  | 5, _ => rfl
  | 6, _ => rfl
  | 7, _ => rfl
  | k + 8, h => exact absurd h (by omega)
theorem kf_4 : ∀ j, j < 2 → defaultValue (tyX4 j) = vp_V [.null, .null] j := by
  intro j hj
  match j, hj with
  | 0, _ => rfl
  | 1, _ => rfl
  | k + 2, h => exact absurd h (by omega)
theorem kf_5 : ∀ j, j < 3 → defaultValue (tyX5 j) = vp_V [.null, .null, .int 0] j := by
  intro j hj
  match j, hj with
  | 0, _ => rfl
  | 1, _ => rfl
  | 2, _ => rfl
  | k + 3, h => exact absurd h (by omega)
theorem kf_6 : ∀ j, j < 9 → defaultValue (tyX6 j) = vp_V [.null, .null, .null, .null, .null, .null, .int 0, .int 0, .int 0] j := by
  intro j hj
  match j, hj with
  | 0, _ => rfl
  | 1, _ => rfl
  | 2, _ => rfl
  | 3, _ => rfl
  | 4, _ => rfl
  | 5, _ => rfl
  | 6, _ => rfl
  | 7, _ => rfl
  | 8, _ => rfl
  | k + 9, h => exact absurd h (by omega)
theorem kf_7 : ∀ j, j < 4 → defaultValue (tyX7 j) = vp_V [.null, .null, .null, .int 0] j := by
  intro j hj
  match j, hj with
  | 0, _ => rfl
  | 1, _ => rfl
  | 2, _ => rfl
  | 3, _ => rfl
  | k + 4, h => exact absurd h (by omega)
theorem kf_8 : ∀ j, j < 12 → defaultValue (tyX8 j) = vp_V [.null, .null, .null, .null, .null, .null, .null, .null, .null, .null, .int 0, .int 0] j := by
  intro j hj
  match j, hj with
  | 0, _ => rfl
  | 1, _ => rfl
  | 2, _ => rfl
  | 3, _ => rfl
  | 4, _ => rfl
  | 5, _ => rfl
  | 6, _ => rfl
  | 7, _ => rfl
  | 8, _ => rfl
  | 9, _ => rfl
  | 10, _ => rfl
  | 11, _ => rfl
  | k + 12, h => exact absurd h (by omega)
theorem kf_9 : ∀ j, j < 48 → defaultValue (tyX9 j) = vp_V [.int 0, .int 0, .null, .null, .int 0, .null, .null, .null, .null, .int 0, .null, .null, .null, .null, .null, .null, .int 0, .null, .int 0, .int 0, .int 0, .long 0, .int 0, .int 0, .int 0, .int 0, .int 0, .int 0, .null, .null, .int 0, .null, .null, .null, .int 0, .null, .null, .null, .null, .null, .null, .null, .int 0, .null, .null, .null, .null, .null] j := by
  intro j hj
  match j, hj with
  | 0, _ => rfl
  | 1, _ => rfl
  | 2, _ => rfl
  | 3, _ => rfl
  | 4, _ => rfl
  | 5, _ => rfl
  | 6, _ => rfl
  | 7, _ => rfl
  | 8, _ => rfl
  | 9, _ => rfl
  | 10, _ => rfl
  | 11, _ => rfl
  | 12, _ => rfl
  | 13, _ => rfl
  | 14, _ => rfl
  | 15, _ => rfl
  | 16, _ => rfl
  | 17, _ => rfl
  | 18, _ => rfl
  | 19, _ => rfl
  | 20, _ => rfl
  | 21, _ => rfl
  | 22, _ => rfl
  | 23, _ => rfl
  | 24, _ => rfl
  | 25, _ => rfl
  | 26, _ => rfl
  | 27, _ => rfl
  | 28, _ => rfl
  | 29, _ => rfl
  | 30, _ => rfl
  | 31, _ => rfl
  | 32, _ => rfl
  | 33, _ => rfl
  | 34, _ => rfl
  | 35, _ => rfl
  | 36, _ => rfl
  | 37, _ => rfl
  | 38, _ => rfl
  | 39, _ => rfl
  | 40, _ => rfl
  | 41, _ => rfl
  | 42, _ => rfl
  | 43, _ => rfl
  | 44, _ => rfl
  | 45, _ => rfl
  | 46, _ => rfl
  | 47, _ => rfl
  | k + 48, h => exact absurd h (by omega)

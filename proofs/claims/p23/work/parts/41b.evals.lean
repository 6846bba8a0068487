theorem ev150_ : zck_strengthOf 7 1 dT10_ dV19_ 2 dV19_ = true := by decide +kernel
theorem ev151_ : zck_controllerOf 7 5 dT10_ dV19_ 2 dV18_ = true := by decide +kernel
theorem ev152_ : zck_kindsOf 7 5 dT10_ dV18_ 2 dV18_ = true := by decide +kernel
theorem ev153_ : zck_strengthOf 7 5 dT10_ dV18_ 2 dV18_ = true := by decide +kernel
theorem ev154_ : zck_power 2 dT10_ dV18_ 8 dV18_ = true := by decide +kernel
theorem ev155_ : zck_play 12 1 dL33_ dT10_ dE20_ dM19_ 1 dL34_ dE21_ dM20_ = true := by decide +kernel
theorem ev156_ : zck_entryTarget 0 dT10_ dE21_ 1 = true := by decide +kernel
theorem ev157_ : zck_settle 9 dL34_ dT10_ dE21_ dV18_ dM20_ dK10_ 1 dL35_ dT10_ dE22_ dV18_ dM19_ dK10_ = true := by decide +kernel
theorem ev158_ : zck_things dT10_ 8 = true := by decide +kernel
theorem ev159_ : zck_coins 2 dL35_ 0 = true := by decide +kernel
theorem ev160_ : zck_pass dL35_ dT10_ dE22_ dV18_ dM19_ dK10_ 0 dL36_ dT10_ dE22_ dV18_ dM19_ dK10_ = true := by decide +kernel
theorem ev161_ : zck_pass dL36_ dT10_ dE22_ dV18_ dM19_ dK10_ 0 dL37_ dT10_ dE22_ dV18_ dM19_ dK10_ = true := by decide +kernel
theorem ev162_ : zck_pass dL37_ dT10_ dE22_ dV18_ dM19_ dK10_ 2 dL38_ dT10_ dE22_ dV18_ dM20_ dK10_ = true := by decide +kernel
theorem ev163_ : zck_turn dL38_ 0 = true := by decide +kernel
theorem ev164_ : zck_stack dE22_ 0 = true := by decide +kernel
theorem ev165_ : zck_coins 0 dL38_ 4 = true := by decide +kernel
theorem ev166_ : zck_play 12 7 dL38_ dT10_ dE22_ dM20_ 1 dL39_ dE23_ dM20_ = true := by decide +kernel
theorem ev167_ : zck_settle 1 dL39_ dT10_ dE23_ dV18_ dM20_ dK10_ 1 dL40_ dT11_ dE24_ dV18_ dM21_ dK11_ = true := by decide +kernel
theorem ev168_ : zck_things dT11_ 7 = true := by decide +kernel
theorem ev169_ : zck_play 12 0 dL40_ dT11_ dE24_ dM21_ 1 dL41_ dE25_ dM22_ = true := by decide +kernel
theorem ev170_ : zck_entryTarget 0 dT11_ dE25_ 0 = true := by decide +kernel
theorem ev171_ : zck_settle 1 dL41_ dT11_ dE25_ dV18_ dM22_ dK11_ 1 dL42_ dT12_ dE26_ dV20_ dM23_ dK12_ = true := by decide +kernel
theorem ev172_ : zck_things dT12_ 6 = true := by decide +kernel
theorem ev173_ : zck_cardOf 0 dT12_ 1 = true := by decide +kernel
theorem ev174_ : zck_controllerOf 0 5 dT12_ dV20_ 2 dV20_ = true := by decide +kernel
theorem ev175_ : zck_kindsOf 0 5 dT12_ dV20_ 2 dV20_ = true := by decide +kernel
theorem ev176_ : zck_strengthOf 0 5 dT12_ dV20_ 1 dV20_ = true := by decide +kernel
theorem ev177_ : zck_power 2 dT12_ dV20_ 0 dV20_ = true := by decide +kernel
theorem ev178_ : zck_pass dL42_ dT12_ dE26_ dV20_ dM23_ dK12_ 0 dL43_ dT12_ dE26_ dV20_ dM23_ dK12_ = true := by decide +kernel
theorem ev179_ : zck_pass dL43_ dT12_ dE26_ dV20_ dM23_ dK12_ 0 dL44_ dT12_ dE26_ dV20_ dM23_ dK12_ = true := by decide +kernel
theorem ev180_ : zck_pass dL44_ dT12_ dE26_ dV20_ dM23_ dK12_ 2 dL45_ dT12_ dE26_ dV20_ dM24_ dK12_ = true := by decide +kernel
theorem ev181_ : zck_stack dE26_ 0 = true := by decide +kernel
theorem ev182_ : zck_pass dL45_ dT12_ dE26_ dV20_ dM24_ dK12_ 0 dL46_ dT12_ dE26_ dV20_ dM24_ dK12_ = true := by decide +kernel
theorem ev183_ : zck_pass dL46_ dT12_ dE26_ dV20_ dM24_ dK12_ 0 dL47_ dT12_ dE26_ dV20_ dM24_ dK12_ = true := by decide +kernel
theorem ev184_ : zck_pass dL47_ dT12_ dE26_ dV20_ dM24_ dK12_ 2 dL48_ dT12_ dE27_ dV20_ dM24_ dK12_ = true := by decide +kernel
theorem ev185_ : zck_turn dL48_ 2 = true := by decide +kernel
theorem ev186_ : zck_stack dE27_ 1 = true := by decide +kernel
theorem ev187_ : zck_entryPlayer 0 dE27_ 2 = true := by decide +kernel
theorem ev188_ : zck_coins 2 dL48_ 3 = true := by decide +kernel
theorem ev189_ : zck_settle 9 dL48_ dT12_ dE27_ dV20_ dM24_ dK12_ 1 dL49_ dT12_ dE28_ dV20_ dM23_ dK12_ = true := by decide +kernel
theorem ev190_ : zck_coins 2 dL49_ 5 = true := by decide +kernel
theorem ev191_ : zck_play 12 4 dL49_ dT12_ dE28_ dM23_ 1 dL50_ dE29_ dM24_ = true := by decide +kernel
theorem ev192_ : zck_settle 1 dL50_ dT12_ dE29_ dV20_ dM24_ dK12_ 1 dL51_ dT13_ dE30_ dV21_ dM25_ dK13_ = true := by decide +kernel
theorem ev193_ : zck_things dT13_ 5 = true := by decide +kernel
theorem ev194_ : zck_controllerOf 0 5 dT13_ dV21_ 0 dV21_ = true := by decide +kernel
theorem ev195_ : zck_kindsOf 0 5 dT13_ dV21_ 2 dV21_ = true := by decide +kernel
theorem ev196_ : zck_strengthOf 0 5 dT13_ dV21_ 1 dV21_ = true := by decide +kernel
theorem ev197_ : zck_cardOf 4 dT13_ 6 = true := by decide +kernel
theorem ev198_ : zck_play 0 0 dL0_ dT0_ dE0_ dM0_ 1 dL1_ dE1_ dM0_ = true := by decide +kernel
theorem ev199_ : zck_play 13 0 dL1_ dT0_ dE1_ dM0_ 2 dL52_ dE31_ dM0_ = true := by decide +kernel
theorem ev200_ : zck_entryTarget 0 dT0_ dE31_ 1 = true := by decide +kernel
theorem ev201_ : zck_play 13 0 dL52_ dT0_ dE31_ dM0_ 3 dL53_ dE32_ dM0_ = true := by decide +kernel
theorem ev202_ : zck_entryTarget 0 dT0_ dE32_ 1 = true := by decide +kernel
theorem ev203_ : zck_entryTarget 1 dT0_ dE32_ 2 = true := by decide +kernel
theorem ev204_ : zck_entryTarget 2 dT0_ dE32_ (-1) = true := by decide +kernel
theorem ev205_ : zck_acting dL53_ 0 = true := by decide +kernel
theorem ev206_ : zck_settle 1 dL53_ dT0_ dE32_ dV0_ dM0_ dK0_ 1 dL53_ dT0_ dE33_ dV0_ dM26_ dK14_ = true := by decide +kernel
theorem ev207_ : zck_stack dE33_ 1 = true := by decide +kernel
theorem ev208_ : zck_entryCard 0 dE33_ 0 = true := by decide +kernel
theorem ev209_ : zck_settle 60 dL53_ dT0_ dE33_ dV0_ dM26_ dK14_ 1 dL54_ dT14_ dE34_ dV1_ dM27_ dK15_ = true := by decide +kernel
theorem ev210_ : zck_things dT14_ 1 = true := by decide +kernel
theorem ev211_ : zck_coins 1 dL54_ 5 = true := by decide +kernel
theorem ev212_ : zck_coins 2 dL54_ 5 = true := by decide +kernel
theorem ev213_ : zck_acting dL54_ 0 = true := by decide +kernel
theorem ev214_ : zck_play 12 0 dL54_ dT14_ dE34_ dM27_ 1 dL55_ dE35_ dM2_ = true := by decide +kernel
theorem ev215_ : zck_acting dL55_ 1 = true := by decide +kernel
theorem ev216_ : zck_play 12 0 dL55_ dT14_ dE35_ dM2_ 2 dL56_ dE36_ dM2_ = true := by decide +kernel
theorem ev217_ : zck_acting dL56_ 2 = true := by decide +kernel
theorem ev218_ : zck_play 12 0 dL56_ dT14_ dE36_ dM2_ 3 dL57_ dE37_ dM2_ = true := by decide +kernel
theorem ev219_ : zck_acting dL57_ 0 = true := by decide +kernel
theorem ev220_ : zck_play 12 0 dL57_ dT14_ dE37_ dM2_ 4 dL58_ dE38_ dM2_ = true := by decide +kernel
theorem ev221_ : zck_acting dL58_ 1 = true := by decide +kernel
theorem ev222_ : zck_play 12 0 dL58_ dT14_ dE38_ dM2_ 5 dL59_ dE39_ dM2_ = true := by decide +kernel
theorem ev223_ : zck_acting dL59_ 2 = true := by decide +kernel
theorem ev224_ : zck_play 12 0 dL59_ dT14_ dE39_ dM2_ 6 dL60_ dE40_ dM2_ = true := by decide +kernel
theorem ev225_ : zck_acting dL60_ 0 = true := by decide +kernel
theorem ev226_ : zck_play 12 0 dL60_ dT14_ dE40_ dM2_ 7 dL61_ dE41_ dM2_ = true := by decide +kernel
theorem ev227_ : zck_acting dL61_ 1 = true := by decide +kernel
theorem ev228_ : zck_play 12 0 dL61_ dT14_ dE41_ dM2_ 8 dL62_ dE42_ dM2_ = true := by decide +kernel
theorem ev229_ : zck_acting dL62_ 2 = true := by decide +kernel
theorem ev230_ : zck_play 12 0 dL62_ dT14_ dE42_ dM2_ 9 dL63_ dE43_ dM2_ = true := by decide +kernel
theorem ev231_ : zck_acting dL63_ 0 = true := by decide +kernel
theorem ev232_ : zck_play 12 0 dL63_ dT14_ dE43_ dM2_ 10 dL64_ dE44_ dM2_ = true := by decide +kernel
theorem ev233_ : zck_acting dL64_ 1 = true := by decide +kernel
theorem ev234_ : zck_play 12 0 dL64_ dT14_ dE44_ dM2_ 11 dL65_ dE45_ dM2_ = true := by decide +kernel
theorem ev235_ : zck_acting dL65_ 2 = true := by decide +kernel
theorem ev236_ : zck_play 12 0 dL65_ dT14_ dE45_ dM2_ 12 dL66_ dE46_ dM2_ = true := by decide +kernel
theorem ev237_ : zck_obstacle 12 0 dL66_ dT14_ dE46_ 2 = true := by decide +kernel
theorem ev238_ : zck_pass dL66_ dT14_ dE46_ dV1_ dM2_ dK15_ 0 dL67_ dT14_ dE46_ dV1_ dM2_ dK15_ = true := by decide +kernel
theorem ev239_ : zck_obstacle 12 0 dL67_ dT14_ dE46_ 4 = true := by decide +kernel
theorem ev240_ : zck_obstacle 12 1 dL67_ dT14_ dE46_ 3 = true := by decide +kernel
theorem ev241_ : zck_obstacle 13 11 dL67_ dT14_ dE46_ 4 = true := by decide +kernel
theorem ev242_ : ¬ mX4_findObstacle 13 11 (zd dL67_) (zd dT14_) (zd dE46_) = 0 := by decide +kernel
theorem ev243_ : zck_entryTarget 11 dT14_ dE46_ 0 = true := by decide +kernel
theorem ev244_ : zck_settle 3 dL67_ dT14_ dE46_ dV1_ dM2_ dK15_ 3 dL66_ dT15_ dE47_ dV1_ dM28_ dK16_ = true := by decide +kernel
theorem ev245_ : zck_things dT15_ 0 = true := by decide +kernel
theorem ev246_ : zck_entryTarget 0 dT15_ dE47_ (-1) = true := by decide +kernel
theorem ev247_ : zck_settle 60 dL66_ dT15_ dE47_ dV1_ dM28_ dK16_ 9 dL66_ dT15_ dE48_ dV1_ dM29_ dK17_ = true := by decide +kernel
theorem ev248_ : zck_loops dL66_ 0 = true := by decide +kernel
theorem ev249_ : zck_play 10 0 dL0_ dT0_ dE0_ dM0_ 1 dL68_ dE49_ dM0_ = true := by decide +kernel
theorem ev250_ : zck_coins 0 dL68_ 3 = true := by decide +kernel
theorem ev251_ : zck_settle 1 dL68_ dT0_ dE49_ dV0_ dM0_ dK0_ 1 dL69_ dT16_ dE50_ dV3_ dM30_ dK18_ = true := by decide +kernel
theorem ev252_ : zck_acting dL69_ 0 = true := by decide +kernel
theorem ev253_ : zck_play 11 0 dL69_ dT16_ dE50_ dM30_ 1 dL70_ dE51_ dM31_ = true := by decide +kernel
theorem ev254_ : zck_coins 0 dL70_ 0 = true := by decide +kernel
theorem ev255_ : zck_settle 1 dL70_ dT16_ dE51_ dV3_ dM31_ dK18_ 1 dL71_ dT17_ dE52_ dV22_ dM32_ dK19_ = true := by decide +kernel
theorem ev256_ : zck_stack dE52_ 0 = true := by decide +kernel
theorem ev257_ : zck_pass dL71_ dT17_ dE52_ dV22_ dM32_ dK19_ 0 dL72_ dT17_ dE52_ dV22_ dM32_ dK19_ = true := by decide +kernel
theorem ev258_ : zck_pass dL72_ dT17_ dE52_ dV22_ dM32_ dK19_ 0 dL73_ dT17_ dE52_ dV22_ dM32_ dK19_ = true := by decide +kernel
theorem ev259_ : zck_pass dL73_ dT17_ dE52_ dV22_ dM32_ dK19_ 2 dL74_ dT17_ dE52_ dV22_ dM33_ dK19_ = true := by decide +kernel
theorem ev260_ : zck_acting dL74_ 1 = true := by decide +kernel
theorem ev261_ : zck_play 9 0 dL74_ dT17_ dE52_ dM33_ 1 dL75_ dE53_ dM33_ = true := by decide +kernel
theorem ev262_ : zck_coins 1 dL75_ 7 = true := by decide +kernel
theorem ev263_ : zck_settle 1 dL75_ dT17_ dE53_ dV22_ dM33_ dK19_ 1 dL76_ dT18_ dE54_ dV23_ dM34_ dK20_ = true := by decide +kernel
theorem ev264_ : zck_stack dE54_ 1 = true := by decide +kernel
theorem ev265_ : zck_entryCard 0 dE54_ 11 = true := by decide +kernel
theorem ev266_ : zck_settle 9 dL76_ dT18_ dE54_ dV23_ dM34_ dK20_ 1 dL76_ dT18_ dE55_ dV23_ dM35_ dK21_ = true := by decide +kernel
theorem ev267_ : zck_play 0 0 dL76_ dT18_ dE55_ dM35_ 1 dL77_ dE56_ dM36_ = true := by decide +kernel
theorem ev268_ : zck_settle 1 dL77_ dT18_ dE56_ dV23_ dM36_ dK21_ 1 dL78_ dT19_ dE57_ dV24_ dM37_ dK22_ = true := by decide +kernel
theorem ev269_ : zck_things dT19_ 4 = true := by decide +kernel
theorem ev270_ : zck_stack dE57_ 2 = true := by decide +kernel
theorem ev271_ : zck_entryCard 0 dE57_ 11 = true := by decide +kernel
theorem ev272_ : zck_entryPlayer 0 dE57_ 0 = true := by decide +kernel
theorem ev273_ : zck_entryCard 1 dE57_ 9 = true := by decide +kernel
theorem ev274_ : zck_entryPlayer 1 dE57_ 1 = true := by decide +kernel
theorem ev275_ : zck_settle 1 dL78_ dT19_ dE57_ dV24_ dM37_ dK22_ 1 dL79_ dT20_ dE58_ dV24_ dM38_ dK23_ = true := by decide +kernel
theorem ev276_ : zck_things dT20_ 3 = true := by decide +kernel
theorem ev277_ : zck_stack dE58_ 2 = true := by decide +kernel
theorem ev278_ : zck_entryCard 0 dE58_ 10 = true := by decide +kernel
theorem ev279_ : zck_settle 1 dL79_ dT20_ dE58_ dV24_ dM38_ dK23_ 1 dL80_ dT21_ dE59_ dV25_ dM39_ dK24_ = true := by decide +kernel
theorem ev280_ : zck_things dT21_ 4 = true := by decide +kernel
theorem ev281_ : zck_controllerOf 3 0 dT21_ dV25_ 0 dV25_ = true := by decide +kernel
theorem ev282_ : zck_stack dE59_ 3 = true := by decide +kernel
theorem ev283_ : zck_entryCard 0 dE59_ 11 = true := by decide +kernel
theorem ev284_ : zck_entryCard 1 dE59_ 9 = true := by decide +kernel
theorem ev285_ : zck_entryCard 2 dE59_ 9 = true := by decide +kernel
theorem ev286_ : zck_coins 1 dL80_ 5 = true := by decide +kernel
theorem ev287_ : zck_play 0 0 dL74_ dT17_ dE52_ dM33_ 1 dL75_ dE60_ dM33_ = true := by decide +kernel
theorem ev288_ : zck_settle 3 dL75_ dT17_ dE60_ dV22_ dM33_ dK19_ 3 dL81_ dT22_ dE61_ dV26_ dM40_ dK25_ = true := by decide +kernel
theorem ev289_ : zck_things dT22_ 3 = true := by decide +kernel
theorem ev290_ : zck_loops dL81_ 0 = true := by decide +kernel
theorem ev291_ : zck_stack dE61_ 1 = true := by decide +kernel
theorem ev292_ : zck_pass dL81_ dT22_ dE61_ dV26_ dM40_ dK25_ 0 dL82_ dT22_ dE61_ dV26_ dM40_ dK25_ = true := by decide +kernel
theorem ev293_ : zck_pass dL82_ dT22_ dE61_ dV26_ dM40_ dK25_ 0 dL83_ dT22_ dE61_ dV26_ dM40_ dK25_ = true := by decide +kernel
theorem ev294_ : zck_pass dL83_ dT22_ dE61_ dV26_ dM40_ dK25_ 1 dL84_ dT23_ dE62_ dV26_ dM41_ dK25_ = true := by decide +kernel
theorem ev295_ : zck_loops dL84_ 1 = true := by decide +kernel
theorem ev296_ : zck_stack dE62_ 0 = true := by decide +kernel
theorem ev297_ : zck_things dT23_ 2 = true := by decide +kernel
theorem ev298_ : zck_acting dL84_ 1 = true := by decide +kernel
theorem ev299_ : zck_coins 1 dL84_ 7 = true := by decide +kernel

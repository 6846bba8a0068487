theorem ev0_ : zck_turn dL0_ 0 = true := by decide +kernel
theorem ev1_ : zck_acting dL0_ 0 = true := by decide +kernel
theorem ev2_ : zck_rounds dL0_ 0 = true := by decide +kernel
theorem ev3_ : zck_loops dL0_ 0 = true := by decide +kernel
theorem ev4_ : zck_coins 0 dL0_ 6 = true := by decide +kernel
theorem ev5_ : zck_coins 2 dL0_ 6 = true := by decide +kernel
theorem ev6_ : zck_things dT0_ 0 = true := by decide +kernel
theorem ev7_ : zck_stack dE0_ 0 = true := by decide +kernel
theorem ev8_ : zck_settle 60 dL0_ dT0_ dE0_ dV0_ dM0_ dK0_ 0 dL0_ dT0_ dE0_ dV0_ dM0_ dK0_ = true := by decide +kernel
theorem ev9_ : zck_obstacle 7 0 dL0_ dT0_ dE0_ 3 = true := by decide +kernel
theorem ev10_ : zck_obstacle 13 0 dL0_ dT0_ dE0_ 3 = true := by decide +kernel
theorem ev11_ : zck_play 0 99 dL0_ dT0_ dE0_ dM0_ 1 dL1_ dE1_ dM0_ = true := by decide +kernel
theorem ev12_ : zck_coins 0 dL1_ 4 = true := by decide +kernel
theorem ev13_ : zck_acting dL1_ 1 = true := by decide +kernel
theorem ev14_ : zck_obstacle 0 0 dL1_ dT0_ dE1_ 1 = true := by decide +kernel
theorem ev15_ : zck_entryCard 0 dE1_ 0 = true := by decide +kernel
theorem ev16_ : zck_isTrigger 0 dE1_ 0 = true := by decide +kernel
theorem ev17_ : zck_entryPlayer 0 dE1_ 0 = true := by decide +kernel
theorem ev18_ : zck_entryTarget 0 dT0_ dE1_ (-1) = true := by decide +kernel
theorem ev19_ : zck_pass dL1_ dT0_ dE1_ dV0_ dM0_ dK0_ 0 dL2_ dT0_ dE1_ dV0_ dM0_ dK0_ = true := by decide +kernel
theorem ev20_ : zck_acting dL2_ 2 = true := by decide +kernel
theorem ev21_ : zck_pass dL2_ dT0_ dE1_ dV0_ dM0_ dK0_ 0 dL3_ dT0_ dE1_ dV0_ dM0_ dK0_ = true := by decide +kernel
theorem ev22_ : zck_acting dL3_ 0 = true := by decide +kernel
theorem ev23_ : zck_obstacle 1 0 dL3_ dT0_ dE1_ 1 = true := by decide +kernel
theorem ev24_ : zck_pass dL3_ dT0_ dE1_ dV0_ dM0_ dK0_ 1 dL4_ dT1_ dE2_ dV1_ dM1_ dK1_ = true := by decide +kernel
theorem ev25_ : zck_acting dL4_ 0 = true := by decide +kernel
theorem ev26_ : zck_things dT1_ 1 = true := by decide +kernel
theorem ev27_ : zck_cardOf 0 dT1_ 0 = true := by decide +kernel
theorem ev28_ : zck_controllerOf 0 0 dT1_ dV1_ 0 dV1_ = true := by decide +kernel
theorem ev29_ : zck_kindsOf 0 0 dT1_ dV1_ 1 dV1_ = true := by decide +kernel
theorem ev30_ : zck_strengthOf 0 0 dT1_ dV1_ 2 dV1_ = true := by decide +kernel
theorem ev31_ : zck_controllerOf 0 5 dT1_ dV1_ 0 dV1_ = true := by decide +kernel
theorem ev32_ : zck_kindsOf 0 5 dT1_ dV1_ 1 dV1_ = true := by decide +kernel
theorem ev33_ : zck_strengthOf 0 5 dT1_ dV1_ 2 dV1_ = true := by decide +kernel
theorem ev34_ : zck_power 0 dT1_ dV1_ 2 dV1_ = true := by decide +kernel
theorem ev35_ : zck_power 1 dT1_ dV1_ 0 dV1_ = true := by decide +kernel
theorem ev36_ : zck_play 1 0 dL4_ dT1_ dE2_ dM1_ 1 dL5_ dE3_ dM2_ = true := by decide +kernel
theorem ev37_ : zck_coins 0 dL5_ 1 = true := by decide +kernel
theorem ev38_ : zck_settle 1 dL5_ dT1_ dE3_ dV1_ dM2_ dK1_ 1 dL6_ dT2_ dE4_ dV2_ dM3_ dK2_ = true := by decide +kernel
theorem ev39_ : zck_cardOf 1 dT2_ 1 = true := by decide +kernel
theorem ev40_ : zck_controllerOf 1 5 dT2_ dV2_ 0 dV2_ = true := by decide +kernel
theorem ev41_ : zck_kindsOf 1 5 dT2_ dV2_ 2 dV2_ = true := by decide +kernel
theorem ev42_ : zck_strengthOf 1 5 dT2_ dV2_ 1 dV2_ = true := by decide +kernel
theorem ev43_ : zck_obstacle 0 0 dL6_ dT2_ dE4_ 2 = true := by decide +kernel
theorem ev44_ : ¬ mX4_findObstacle 0 0 (zd dL6_) (zd dT2_) (zd dE4_) = 0 := by decide +kernel
theorem ev45_ : zck_obstacle 12 2 dL6_ dT2_ dE4_ 3 = true := by decide +kernel
theorem ev46_ : zck_obstacle 12 1 dL6_ dT2_ dE4_ 0 = true := by decide +kernel
theorem ev47_ : zck_pass dL6_ dT2_ dE4_ dV2_ dM3_ dK2_ 0 dL7_ dT2_ dE4_ dV2_ dM3_ dK2_ = true := by decide +kernel
theorem ev48_ : zck_pass dL7_ dT2_ dE4_ dV2_ dM3_ dK2_ 0 dL8_ dT2_ dE4_ dV2_ dM3_ dK2_ = true := by decide +kernel
theorem ev49_ : zck_pass dL8_ dT2_ dE4_ dV2_ dM3_ dK2_ 2 dL9_ dT2_ dE4_ dV2_ dM4_ dK2_ = true := by decide +kernel
theorem ev50_ : zck_turn dL9_ 1 = true := by decide +kernel
theorem ev51_ : zck_acting dL9_ 1 = true := by decide +kernel
theorem ev52_ : zck_coins 1 dL9_ 9 = true := by decide +kernel
theorem ev53_ : zck_rounds dL9_ 1 = true := by decide +kernel
theorem ev54_ : zck_stack dE4_ 0 = true := by decide +kernel
theorem ev55_ : zck_pass dL9_ dT2_ dE4_ dV2_ dM4_ dK2_ 0 dL10_ dT2_ dE4_ dV2_ dM4_ dK2_ = true := by decide +kernel
theorem ev56_ : zck_pass dL10_ dT2_ dE4_ dV2_ dM4_ dK2_ 0 dL11_ dT2_ dE4_ dV2_ dM4_ dK2_ = true := by decide +kernel
theorem ev57_ : zck_pass dL11_ dT2_ dE4_ dV2_ dM4_ dK2_ 2 dL12_ dT2_ dE4_ dV2_ dM4_ dK2_ = true := by decide +kernel
theorem ev58_ : zck_coins 2 dL12_ 9 = true := by decide +kernel
theorem ev59_ : zck_pass dL12_ dT2_ dE4_ dV2_ dM4_ dK2_ 0 dL13_ dT2_ dE4_ dV2_ dM4_ dK2_ = true := by decide +kernel
theorem ev60_ : zck_settle 5 dL13_ dT2_ dE4_ dV2_ dM4_ dK2_ 0 dL13_ dT2_ dE4_ dV2_ dM4_ dK2_ = true := by decide +kernel
theorem ev61_ : zck_pass dL13_ dT2_ dE4_ dV2_ dM4_ dK2_ 0 dL14_ dT2_ dE4_ dV2_ dM4_ dK2_ = true := by decide +kernel
theorem ev62_ : zck_pass dL14_ dT2_ dE4_ dV2_ dM4_ dK2_ 2 dL15_ dT2_ dE5_ dV2_ dM4_ dK2_ = true := by decide +kernel
theorem ev63_ : zck_turn dL15_ 0 = true := by decide +kernel
theorem ev64_ : zck_coins 0 dL15_ 4 = true := by decide +kernel
theorem ev65_ : zck_stack dE5_ 1 = true := by decide +kernel
theorem ev66_ : zck_entryCard 0 dE5_ 1 = true := by decide +kernel
theorem ev67_ : zck_isTrigger 0 dE5_ 1 = true := by decide +kernel
theorem ev68_ : zck_entryPlayer 0 dE5_ 0 = true := by decide +kernel
theorem ev69_ : zck_entryTarget 0 dT2_ dE5_ (-1) = true := by decide +kernel
theorem ev70_ : zck_obstacle 13 0 dL15_ dT2_ dE5_ 3 = true := by decide +kernel
theorem ev71_ : zck_obstacle 0 0 dL15_ dT2_ dE5_ 1 = true := by decide +kernel
theorem ev72_ : zck_pass dL15_ dT2_ dE5_ dV2_ dM4_ dK2_ 0 dL16_ dT2_ dE5_ dV2_ dM4_ dK2_ = true := by decide +kernel
theorem ev73_ : zck_pass dL16_ dT2_ dE5_ dV2_ dM4_ dK2_ 0 dL17_ dT2_ dE5_ dV2_ dM4_ dK2_ = true := by decide +kernel
theorem ev74_ : zck_pass dL17_ dT2_ dE5_ dV2_ dM4_ dK2_ 1 dL18_ dT2_ dE6_ dV2_ dM3_ dK2_ = true := by decide +kernel
theorem ev75_ : zck_coins 0 dL18_ 6 = true := by decide +kernel
theorem ev76_ : zck_rounds dL18_ 3 = true := by decide +kernel
theorem ev77_ : zck_power 0 dT2_ dV2_ 2 dV2_ = true := by decide +kernel
theorem ev78_ : zck_play 5 0 dL0_ dT0_ dE0_ dM0_ 1 dL1_ dE7_ dM0_ = true := by decide +kernel
theorem ev79_ : zck_settle 1 dL1_ dT0_ dE7_ dV0_ dM0_ dK0_ 1 dL4_ dT3_ dE8_ dV3_ dM5_ dK3_ = true := by decide +kernel
theorem ev80_ : zck_play 1 0 dL4_ dT3_ dE8_ dM5_ 1 dL5_ dE3_ dM6_ = true := by decide +kernel
theorem ev81_ : zck_settle 1 dL5_ dT3_ dE3_ dV3_ dM6_ dK3_ 1 dL6_ dT4_ dE4_ dV4_ dM7_ dK4_ = true := by decide +kernel
theorem ev82_ : zck_controllerOf 0 5 dT4_ dV4_ 0 dV4_ = true := by decide +kernel
theorem ev83_ : zck_kindsOf 0 5 dT4_ dV4_ 4 dV4_ = true := by decide +kernel
theorem ev84_ : zck_strengthOf 0 5 dT4_ dV4_ 0 dV4_ = true := by decide +kernel
theorem ev85_ : zck_controllerOf 1 1 dT4_ dV4_ 0 dV5_ = true := by decide +kernel
theorem ev86_ : zck_kindsOf 1 1 dT4_ dV5_ 2 dV5_ = true := by decide +kernel
theorem ev87_ : zck_strengthOf 1 1 dT4_ dV5_ 1 dV5_ = true := by decide +kernel
theorem ev88_ : zck_controllerOf 1 2 dT4_ dV5_ 0 dV6_ = true := by decide +kernel
theorem ev89_ : zck_kindsOf 1 2 dT4_ dV6_ 3 dV6_ = true := by decide +kernel
theorem ev90_ : zck_strengthOf 1 2 dT4_ dV6_ 1 dV6_ = true := by decide +kernel
theorem ev91_ : zck_power 0 dT4_ dV6_ 1 dV4_ = true := by decide +kernel
theorem ev92_ : zck_pass dL6_ dT4_ dE4_ dV4_ dM7_ dK4_ 0 dL7_ dT4_ dE4_ dV4_ dM7_ dK4_ = true := by decide +kernel
theorem ev93_ : zck_pass dL7_ dT4_ dE4_ dV4_ dM7_ dK4_ 0 dL8_ dT4_ dE4_ dV4_ dM7_ dK4_ = true := by decide +kernel
theorem ev94_ : zck_pass dL8_ dT4_ dE4_ dV4_ dM7_ dK4_ 2 dL9_ dT4_ dE4_ dV4_ dM8_ dK4_ = true := by decide +kernel
theorem ev95_ : zck_play 2 0 dL9_ dT4_ dE4_ dM8_ 1 dL19_ dE9_ dM8_ = true := by decide +kernel
theorem ev96_ : zck_coins 1 dL19_ 6 = true := by decide +kernel
theorem ev97_ : zck_settle 1 dL19_ dT4_ dE9_ dV4_ dM8_ dK4_ 1 dL20_ dT5_ dE10_ dV7_ dM9_ dK5_ = true := by decide +kernel
theorem ev98_ : zck_controllerOf 1 5 dT5_ dV7_ 0 dV7_ = true := by decide +kernel
theorem ev99_ : zck_kindsOf 1 5 dT5_ dV7_ 3 dV7_ = true := by decide +kernel
theorem ev100_ : zck_strengthOf 1 5 dT5_ dV7_ 1 dV7_ = true := by decide +kernel
theorem ev101_ : zck_acting dL20_ 1 = true := by decide +kernel
theorem ev102_ : zck_play 4 0 dL20_ dT5_ dE10_ dM9_ 1 dL21_ dE11_ dM10_ = true := by decide +kernel
theorem ev103_ : zck_coins 1 dL21_ 3 = true := by decide +kernel
theorem ev104_ : zck_settle 1 dL21_ dT5_ dE11_ dV7_ dM10_ dK5_ 1 dL22_ dT6_ dE12_ dV8_ dM11_ dK6_ = true := by decide +kernel
theorem ev105_ : zck_controllerOf 1 2 dT6_ dV8_ 0 dV9_ = true := by decide +kernel
theorem ev106_ : zck_kindsOf 1 2 dT6_ dV9_ 3 dV9_ = true := by decide +kernel
theorem ev107_ : zck_strengthOf 1 2 dT6_ dV9_ 1 dV9_ = true := by decide +kernel
theorem ev108_ : zck_controllerOf 1 3 dT6_ dV9_ 0 dV10_ = true := by decide +kernel
theorem ev109_ : zck_kindsOf 1 3 dT6_ dV10_ 3 dV10_ = true := by decide +kernel
theorem ev110_ : zck_strengthOf 1 3 dT6_ dV10_ 4 dV10_ = true := by decide +kernel
theorem ev111_ : zck_acting dL22_ 1 = true := by decide +kernel
theorem ev112_ : zck_play 8 0 dL22_ dT6_ dE12_ dM11_ 1 dL23_ dE13_ dM12_ = true := by decide +kernel
theorem ev113_ : zck_coins 1 dL23_ 0 = true := by decide +kernel
theorem ev114_ : zck_settle 1 dL23_ dT6_ dE13_ dV10_ dM12_ dK6_ 1 dL24_ dT7_ dE14_ dV11_ dM13_ dK7_ = true := by decide +kernel
theorem ev115_ : zck_controllerOf 1 4 dT7_ dV11_ 0 dV12_ = true := by decide +kernel
theorem ev116_ : zck_kindsOf 1 4 dT7_ dV12_ 3 dV12_ = true := by decide +kernel
theorem ev117_ : zck_strengthOf 1 4 dT7_ dV12_ 4 dV12_ = true := by decide +kernel
theorem ev118_ : zck_controllerOf 1 5 dT7_ dV12_ 0 dV11_ = true := by decide +kernel
theorem ev119_ : zck_kindsOf 1 5 dT7_ dV11_ 3 dV11_ = true := by decide +kernel
theorem ev120_ : zck_strengthOf 1 5 dT7_ dV11_ 8 dV11_ = true := by decide +kernel
theorem ev121_ : zck_power 0 dT7_ dV11_ 8 dV11_ = true := by decide +kernel
theorem ev122_ : zck_pass dL24_ dT7_ dE14_ dV11_ dM13_ dK7_ 0 dL25_ dT7_ dE14_ dV11_ dM13_ dK7_ = true := by decide +kernel
theorem ev123_ : zck_pass dL25_ dT7_ dE14_ dV11_ dM13_ dK7_ 0 dL26_ dT7_ dE14_ dV11_ dM13_ dK7_ = true := by decide +kernel
theorem ev124_ : zck_pass dL26_ dT7_ dE14_ dV11_ dM13_ dK7_ 2 dL27_ dT7_ dE14_ dV11_ dM14_ dK7_ = true := by decide +kernel
theorem ev125_ : zck_acting dL27_ 2 = true := by decide +kernel
theorem ev126_ : zck_play 7 1 dL27_ dT7_ dE14_ dM14_ 1 dL28_ dE15_ dM14_ = true := by decide +kernel
theorem ev127_ : zck_coins 2 dL28_ 5 = true := by decide +kernel
theorem ev128_ : zck_settle 1 dL28_ dT7_ dE15_ dV11_ dM14_ dK7_ 1 dL29_ dT8_ dE16_ dV13_ dM15_ dK8_ = true := by decide +kernel
theorem ev129_ : zck_controllerOf 1 0 dT8_ dV13_ 0 dV14_ = true := by decide +kernel
theorem ev130_ : zck_kindsOf 1 0 dT8_ dV14_ 2 dV14_ = true := by decide +kernel
theorem ev131_ : zck_strengthOf 1 0 dT8_ dV14_ 1 dV14_ = true := by decide +kernel
theorem ev132_ : zck_controllerOf 1 1 dT8_ dV14_ 2 dV15_ = true := by decide +kernel
theorem ev133_ : zck_kindsOf 1 1 dT8_ dV15_ 2 dV15_ = true := by decide +kernel
theorem ev134_ : zck_strengthOf 1 1 dT8_ dV15_ 1 dV15_ = true := by decide +kernel
theorem ev135_ : zck_power 0 dT8_ dV15_ 0 dV13_ = true := by decide +kernel
theorem ev136_ : zck_power 2 dT8_ dV13_ 8 dV13_ = true := by decide +kernel
theorem ev137_ : zck_acting dL29_ 2 = true := by decide +kernel
theorem ev138_ : zck_play 6 0 dL29_ dT8_ dE16_ dM15_ 1 dL30_ dE17_ dM16_ = true := by decide +kernel
theorem ev139_ : zck_coins 2 dL30_ 3 = true := by decide +kernel
theorem ev140_ : zck_settle 1 dL30_ dT8_ dE17_ dV13_ dM16_ dK8_ 1 dL31_ dT9_ dE18_ dV16_ dM17_ dK9_ = true := by decide +kernel
theorem ev141_ : zck_controllerOf 1 2 dT9_ dV16_ 2 dV17_ = true := by decide +kernel
theorem ev142_ : zck_kindsOf 1 2 dT9_ dV17_ 3 dV17_ = true := by decide +kernel
theorem ev143_ : zck_strengthOf 1 2 dT9_ dV17_ 1 dV17_ = true := by decide +kernel
theorem ev144_ : zck_acting dL31_ 2 = true := by decide +kernel
theorem ev145_ : zck_play 0 0 dL31_ dT9_ dE18_ dM17_ 1 dL32_ dE19_ dM18_ = true := by decide +kernel
theorem ev146_ : zck_coins 2 dL32_ 1 = true := by decide +kernel
theorem ev147_ : zck_settle 1 dL32_ dT9_ dE19_ dV17_ dM18_ dK9_ 1 dL33_ dT10_ dE20_ dV18_ dM19_ dK10_ = true := by decide +kernel
theorem ev148_ : zck_controllerOf 7 1 dT10_ dV18_ 2 dV19_ = true := by decide +kernel
theorem ev149_ : zck_kindsOf 7 1 dT10_ dV19_ 1 dV19_ = true := by decide +kernel

theorem ev300_ : zck_turn dL84_ 1 = true := by decide +kernel
theorem ev301_ : zck_play 5 0 dL84_ dT23_ dE62_ dM41_ 1 dL85_ dE63_ dM41_ = true := by decide +kernel
theorem ev302_ : zck_settle 9 dL85_ dT23_ dE63_ dV26_ dM41_ dK25_ 2 dL86_ dT24_ dE64_ dV23_ dM42_ dK26_ = true := by decide +kernel
theorem ev303_ : zck_things dT24_ 3 = true := by decide +kernel
theorem ev304_ : zck_turn dL86_ 1 = true := by decide +kernel
theorem ev305_ : zck_coins 1 dL86_ 5 = true := by decide +kernel
theorem ev306_ : zck_play 5 0 dL86_ dT24_ dE64_ dM42_ 1 dL87_ dE65_ dM43_ = true := by decide +kernel
theorem ev307_ : zck_settle 9 dL87_ dT24_ dE65_ dV23_ dM43_ dK26_ 2 dL88_ dT25_ dE66_ dV27_ dM44_ dK27_ = true := by decide +kernel
theorem ev308_ : zck_things dT25_ 4 = true := by decide +kernel
theorem ev309_ : zck_turn dL88_ 1 = true := by decide +kernel
theorem ev310_ : zck_coins 1 dL88_ 3 = true := by decide +kernel
theorem ev311_ : zck_play 5 0 dL88_ dT25_ dE66_ dM44_ 1 dL89_ dE67_ dM45_ = true := by decide +kernel
theorem ev312_ : zck_settle 9 dL89_ dT25_ dE67_ dV27_ dM45_ dK27_ 2 dL90_ dT26_ dE68_ dV28_ dM46_ dK28_ = true := by decide +kernel
theorem ev313_ : zck_things dT26_ 5 = true := by decide +kernel
theorem ev314_ : zck_turn dL90_ 1 = true := by decide +kernel
theorem ev315_ : zck_coins 1 dL90_ 1 = true := by decide +kernel
theorem ev316_ : zck_pass dL90_ dT26_ dE68_ dV28_ dM46_ dK28_ 0 dL91_ dT26_ dE68_ dV28_ dM46_ dK28_ = true := by decide +kernel
theorem ev317_ : zck_pass dL91_ dT26_ dE68_ dV28_ dM46_ dK28_ 0 dL92_ dT26_ dE68_ dV28_ dM46_ dK28_ = true := by decide +kernel
theorem ev318_ : zck_pass dL92_ dT26_ dE68_ dV28_ dM46_ dK28_ 2 dL93_ dT26_ dE68_ dV28_ dM47_ dK28_ = true := by decide +kernel
theorem ev319_ : zck_turn dL93_ 2 = true := by decide +kernel
theorem ev320_ : zck_coins 2 dL93_ 9 = true := by decide +kernel
theorem ev321_ : zck_play 5 0 dL93_ dT26_ dE68_ dM47_ 1 dL94_ dE69_ dM47_ = true := by decide +kernel
theorem ev322_ : zck_settle 9 dL94_ dT26_ dE69_ dV28_ dM47_ dK28_ 2 dL95_ dT27_ dE70_ dV29_ dM48_ dK29_ = true := by decide +kernel
theorem ev323_ : zck_things dT27_ 6 = true := by decide +kernel
theorem ev324_ : zck_turn dL95_ 2 = true := by decide +kernel
theorem ev325_ : zck_coins 2 dL95_ 7 = true := by decide +kernel
theorem ev326_ : zck_play 5 0 dL95_ dT27_ dE70_ dM48_ 1 dL96_ dE71_ dM49_ = true := by decide +kernel
theorem ev327_ : zck_settle 9 dL96_ dT27_ dE71_ dV29_ dM49_ dK29_ 2 dL97_ dT28_ dE72_ dV30_ dM50_ dK30_ = true := by decide +kernel
theorem ev328_ : zck_things dT28_ 7 = true := by decide +kernel
theorem ev329_ : zck_turn dL97_ 2 = true := by decide +kernel
theorem ev330_ : zck_coins 2 dL97_ 5 = true := by decide +kernel
theorem ev331_ : zck_play 5 0 dL97_ dT28_ dE72_ dM50_ 1 dL98_ dE73_ dM51_ = true := by decide +kernel
theorem ev332_ : zck_settle 9 dL98_ dT28_ dE73_ dV30_ dM51_ dK30_ 2 dL99_ dT29_ dE74_ dV31_ dM52_ dK31_ = true := by decide +kernel
theorem ev333_ : zck_things dT29_ 8 = true := by decide +kernel
theorem ev334_ : zck_turn dL99_ 2 = true := by decide +kernel
theorem ev335_ : zck_coins 2 dL99_ 3 = true := by decide +kernel
theorem ev336_ : zck_play 5 0 dL99_ dT29_ dE74_ dM52_ 1 dL100_ dE75_ dM53_ = true := by decide +kernel
theorem ev337_ : zck_settle 9 dL100_ dT29_ dE75_ dV31_ dM53_ dK31_ 2 dL101_ dT30_ dE76_ dV32_ dM54_ dK32_ = true := by decide +kernel
theorem ev338_ : zck_things dT30_ 9 = true := by decide +kernel
theorem ev339_ : zck_turn dL101_ 2 = true := by decide +kernel
theorem ev340_ : zck_coins 2 dL101_ 1 = true := by decide +kernel
theorem ev341_ : zck_pass dL101_ dT30_ dE76_ dV32_ dM54_ dK32_ 0 dL102_ dT30_ dE76_ dV32_ dM54_ dK32_ = true := by decide +kernel
theorem ev342_ : zck_pass dL102_ dT30_ dE76_ dV32_ dM54_ dK32_ 0 dL103_ dT30_ dE76_ dV32_ dM54_ dK32_ = true := by decide +kernel
theorem ev343_ : zck_pass dL103_ dT30_ dE76_ dV32_ dM54_ dK32_ 2 dL104_ dT30_ dE76_ dV32_ dM55_ dK32_ = true := by decide +kernel
theorem ev344_ : zck_turn dL104_ 0 = true := by decide +kernel
theorem ev345_ : zck_coins 0 dL104_ 3 = true := by decide +kernel
theorem ev346_ : zck_play 5 0 dL104_ dT30_ dE76_ dM55_ 1 dL105_ dE77_ dM55_ = true := by decide +kernel
theorem ev347_ : zck_settle 9 dL105_ dT30_ dE77_ dV32_ dM55_ dK32_ 2 dL106_ dT31_ dE78_ dV33_ dM56_ dK33_ = true := by decide +kernel
theorem ev348_ : zck_things dT31_ 10 = true := by decide +kernel
theorem ev349_ : zck_turn dL106_ 0 = true := by decide +kernel
theorem ev350_ : zck_coins 0 dL106_ 1 = true := by decide +kernel
theorem ev351_ : zck_pass dL106_ dT31_ dE78_ dV33_ dM56_ dK33_ 0 dL107_ dT31_ dE78_ dV33_ dM56_ dK33_ = true := by decide +kernel
theorem ev352_ : zck_pass dL107_ dT31_ dE78_ dV33_ dM56_ dK33_ 0 dL108_ dT31_ dE78_ dV33_ dM56_ dK33_ = true := by decide +kernel
theorem ev353_ : zck_pass dL108_ dT31_ dE78_ dV33_ dM56_ dK33_ 2 dL109_ dT31_ dE78_ dV33_ dM57_ dK33_ = true := by decide +kernel
theorem ev354_ : zck_turn dL109_ 1 = true := by decide +kernel
theorem ev355_ : zck_coins 1 dL109_ 4 = true := by decide +kernel
theorem ev356_ : zck_play 0 0 dL109_ dT31_ dE78_ dM57_ 1 dL110_ dE79_ dM57_ = true := by decide +kernel
theorem ev357_ : zck_settle 9 dL110_ dT31_ dE79_ dV33_ dM57_ dK33_ 1 dL111_ dT31_ dE80_ dV33_ dM58_ dK34_ = true := by decide +kernel
theorem ev358_ : zck_stack dE80_ 0 = true := by decide +kernel
theorem ev359_ : zck_play 12 9 dL111_ dT31_ dE80_ dM58_ 1 dL112_ dE81_ dM57_ = true := by decide +kernel
theorem ev360_ : zck_settle 1 dL112_ dT31_ dE81_ dV33_ dM57_ dK34_ 1 dL113_ dT32_ dE82_ dV33_ dM59_ dK35_ = true := by decide +kernel
theorem ev361_ : zck_things dT32_ 9 = true := by decide +kernel
theorem ev362_ : zck_entryCard 0 dE82_ 10 = true := by decide +kernel
theorem ev363_ : zck_loops dL113_ 1 = true := by decide +kernel

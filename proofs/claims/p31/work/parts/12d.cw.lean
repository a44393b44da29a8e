set_option maxRecDepth 1000000 in
theorem am_cw135 : Cond.code am_m135.1.2.1 am_m135.1.2.2 am_m135.2.1.1 am_m135.2.1.2.1 ∈ am_ts := am_ts_in (i := 1229) rfl rfl
set_option maxRecDepth 1000000 in
theorem am_cw136 : Cond.code am_m136.1.2.1 am_m136.1.2.2 am_m136.2.1.1 am_m136.2.1.2.1 ∈ am_ts := am_ts_in (i := 1235) rfl rfl
set_option maxRecDepth 1000000 in
theorem am_cw137 : Cond.code am_m137.1.2.1 am_m137.1.2.2 am_m137.2.1.1 am_m137.2.1.2.1 ∈ am_ts := am_ts_in (i := 1239) rfl rfl
set_option maxRecDepth 1000000 in
theorem am_cw138 : Cond.code am_m138.1.2.1 am_m138.1.2.2 am_m138.2.1.1 am_m138.2.1.2.1 ∈ am_ts := am_ts_in (i := 1243) rfl rfl
set_option maxRecDepth 1000000 in
theorem am_cw139 : Cond.code am_m139.1.2.1 am_m139.1.2.2 am_m139.2.1.1 am_m139.2.1.2.1 ∈ am_ts := am_ts_in (i := 1247) rfl rfl
set_option maxRecDepth 1000000 in
theorem am_cw140 : Cond.code am_m140.1.2.1 am_m140.1.2.2 am_m140.2.1.1 am_m140.2.1.2.1 ∈ am_ts := am_ts_in (i := 1251) rfl rfl
set_option maxRecDepth 1000000 in
theorem am_cw141 : Cond.code am_m141.1.2.1 am_m141.1.2.2 am_m141.2.1.1 am_m141.2.1.2.1 ∈ am_ts := am_ts_in (i := 1255) rfl rfl
set_option maxRecDepth 1000000 in
theorem am_cw142 : Cond.code am_m142.1.2.1 am_m142.1.2.2 am_m142.2.1.1 am_m142.2.1.2.1 ∈ am_ts := am_ts_in (i := 1355) rfl rfl
set_option maxRecDepth 1000000 in
theorem am_cw143 : Cond.code am_m143.1.2.1 am_m143.1.2.2 am_m143.2.1.1 am_m143.2.1.2.1 ∈ am_ts := am_ts_in (i := 1360) rfl rfl
set_option maxRecDepth 1000000 in
theorem am_cw144 : Cond.code am_m144.1.2.1 am_m144.1.2.2 am_m144.2.1.1 am_m144.2.1.2.1 ∈ am_ts := am_ts_in (i := 1364) rfl rfl
set_option maxRecDepth 1000000 in
theorem am_cw145 : Cond.code am_m145.1.2.1 am_m145.1.2.2 am_m145.2.1.1 am_m145.2.1.2.1 ∈ am_ts := am_ts_in (i := 1367) rfl rfl
set_option maxRecDepth 1000000 in
theorem am_cw146 : Cond.code am_m146.1.2.1 am_m146.1.2.2 am_m146.2.1.1 am_m146.2.1.2.1 ∈ am_ts := am_ts_in (i := 1371) rfl rfl
set_option maxRecDepth 1000000 in
theorem am_cw147 : Cond.code am_m147.1.2.1 am_m147.1.2.2 am_m147.2.1.1 am_m147.2.1.2.1 ∈ am_ts := am_ts_in (i := 1375) rfl rfl
set_option maxRecDepth 1000000 in
theorem am_cw148 : Cond.code am_m148.1.2.1 am_m148.1.2.2 am_m148.2.1.1 am_m148.2.1.2.1 ∈ am_ts := am_ts_in (i := 1379) rfl rfl
set_option maxRecDepth 1000000 in
theorem am_cw149 : Cond.code am_m149.1.2.1 am_m149.1.2.2 am_m149.2.1.1 am_m149.2.1.2.1 ∈ am_ts := am_ts_in (i := 1631) rfl rfl
set_option maxRecDepth 1000000 in
theorem am_cw150 : Cond.code am_m150.1.2.1 am_m150.1.2.2 am_m150.2.1.1 am_m150.2.1.2.1 ∈ am_ts := am_ts_in (i := 1635) rfl rfl
set_option maxRecDepth 1000000 in
theorem am_cw151 : Cond.code am_m151.1.2.1 am_m151.1.2.2 am_m151.2.1.1 am_m151.2.1.2.1 ∈ am_ts := am_ts_in (i := 1639) rfl rfl
set_option maxRecDepth 1000000 in
theorem am_cw152 : Cond.code am_m152.1.2.1 am_m152.1.2.2 am_m152.2.1.1 am_m152.2.1.2.1 ∈ am_ts := am_ts_in (i := 1643) rfl rfl
set_option maxRecDepth 1000000 in
theorem am_cw153 : Cond.code am_m153.1.2.1 am_m153.1.2.2 am_m153.2.1.1 am_m153.2.1.2.1 ∈ am_ts := am_ts_in (i := 1647) rfl rfl
set_option maxRecDepth 1000000 in
theorem am_cw154 : Cond.code am_m154.1.2.1 am_m154.1.2.2 am_m154.2.1.1 am_m154.2.1.2.1 ∈ am_ts := am_ts_in (i := 1651) rfl rfl
set_option maxRecDepth 1000000 in
theorem am_cw155 : Cond.code am_m155.1.2.1 am_m155.1.2.2 am_m155.2.1.1 am_m155.2.1.2.1 ∈ am_ts := am_ts_in (i := 1655) rfl rfl
set_option maxRecDepth 1000000 in
theorem am_cw156 : Cond.code am_m156.1.2.1 am_m156.1.2.2 am_m156.2.1.1 am_m156.2.1.2.1 ∈ am_ts := am_ts_in (i := 1660) rfl rfl
set_option maxRecDepth 1000000 in
theorem am_cw157 : Cond.code am_m157.1.2.1 am_m157.1.2.2 am_m157.2.1.1 am_m157.2.1.2.1 ∈ am_ts := am_ts_in (i := 1664) rfl rfl
set_option maxRecDepth 1000000 in
theorem am_cw158 : Cond.code am_m158.1.2.1 am_m158.1.2.2 am_m158.2.1.1 am_m158.2.1.2.1 ∈ am_ts := am_ts_in (i := 1668) rfl rfl
set_option maxRecDepth 1000000 in
theorem am_cw159 : Cond.code am_m159.1.2.1 am_m159.1.2.2 am_m159.2.1.1 am_m159.2.1.2.1 ∈ am_ts := am_ts_in (i := 1672) rfl rfl
set_option maxRecDepth 1000000 in
theorem am_cw160 : Cond.code am_m160.1.2.1 am_m160.1.2.2 am_m160.2.1.1 am_m160.2.1.2.1 ∈ am_ts := am_ts_in (i := 1676) rfl rfl
set_option maxRecDepth 1000000 in
theorem am_cw161 : Cond.code am_m161.1.2.1 am_m161.1.2.2 am_m161.2.1.1 am_m161.2.1.2.1 ∈ am_ts := am_ts_in (i := 1680) rfl rfl
set_option maxRecDepth 1000000 in
theorem am_cw162 : Cond.code am_m162.1.2.1 am_m162.1.2.2 am_m162.2.1.1 am_m162.2.1.2.1 ∈ am_ts := am_ts_in (i := 1683) rfl rfl
set_option maxRecDepth 1000000 in
theorem am_cw163 : Cond.code am_m163.1.2.1 am_m163.1.2.2 am_m163.2.1.1 am_m163.2.1.2.1 ∈ am_ts := am_ts_in (i := 1687) rfl rfl
set_option maxRecDepth 1000000 in
theorem am_cw164 : Cond.code am_m164.1.2.1 am_m164.1.2.2 am_m164.2.1.1 am_m164.2.1.2.1 ∈ am_ts := am_ts_in (i := 1691) rfl rfl
set_option maxRecDepth 1000000 in
theorem am_cw165 : Cond.code am_m165.1.2.1 am_m165.1.2.2 am_m165.2.1.1 am_m165.2.1.2.1 ∈ am_ts := am_ts_in (i := 1694) rfl rfl
set_option maxRecDepth 1000000 in
theorem am_cw166 : Cond.code am_m166.1.2.1 am_m166.1.2.2 am_m166.2.1.1 am_m166.2.1.2.1 ∈ am_ts := am_ts_in (i := 1698) rfl rfl
set_option maxRecDepth 1000000 in
theorem am_cw167 : Cond.code am_m167.1.2.1 am_m167.1.2.2 am_m167.2.1.1 am_m167.2.1.2.1 ∈ am_ts := am_ts_in (i := 1702) rfl rfl
set_option maxRecDepth 1000000 in
theorem am_cw168 : Cond.code am_m168.1.2.1 am_m168.1.2.2 am_m168.2.1.1 am_m168.2.1.2.1 ∈ am_ts := am_ts_in (i := 1706) rfl rfl
set_option maxRecDepth 1000000 in
theorem am_cw169 : Cond.code am_m169.1.2.1 am_m169.1.2.2 am_m169.2.1.1 am_m169.2.1.2.1 ∈ am_ts := am_ts_in (i := 1710) rfl rfl
set_option maxRecDepth 1000000 in
theorem am_cw170 : Cond.code am_m170.1.2.1 am_m170.1.2.2 am_m170.2.1.1 am_m170.2.1.2.1 ∈ am_ts := am_ts_in (i := 1714) rfl rfl
set_option maxRecDepth 1000000 in
theorem am_cw171 : Cond.code am_m171.1.2.1 am_m171.1.2.2 am_m171.2.1.1 am_m171.2.1.2.1 ∈ am_ts := am_ts_in (i := 1718) rfl rfl
set_option maxRecDepth 1000000 in
theorem am_cw172 : Cond.code am_m172.1.2.1 am_m172.1.2.2 am_m172.2.1.1 am_m172.2.1.2.1 ∈ am_ts := am_ts_in (i := 1722) rfl rfl
set_option maxRecDepth 1000000 in
theorem am_cw173 : Cond.code am_m173.1.2.1 am_m173.1.2.2 am_m173.2.1.1 am_m173.2.1.2.1 ∈ am_ts := am_ts_in (i := 1726) rfl rfl
set_option maxRecDepth 1000000 in
theorem am_cw174 : Cond.code am_m174.1.2.1 am_m174.1.2.2 am_m174.2.1.1 am_m174.2.1.2.1 ∈ am_ts := am_ts_in (i := 1730) rfl rfl
set_option maxRecDepth 1000000 in
theorem am_cw175 : Cond.code am_m175.1.2.1 am_m175.1.2.2 am_m175.2.1.1 am_m175.2.1.2.1 ∈ am_ts := am_ts_in (i := 1734) rfl rfl
set_option maxRecDepth 1000000 in
theorem am_cw176 : Cond.code am_m176.1.2.1 am_m176.1.2.2 am_m176.2.1.1 am_m176.2.1.2.1 ∈ am_ts := am_ts_in (i := 1738) rfl rfl
set_option maxRecDepth 1000000 in
theorem am_cw177 : Cond.code am_m177.1.2.1 am_m177.1.2.2 am_m177.2.1.1 am_m177.2.1.2.1 ∈ am_ts := am_ts_in (i := 1742) rfl rfl
set_option maxRecDepth 1000000 in
theorem am_cw178 : Cond.code am_m178.1.2.1 am_m178.1.2.2 am_m178.2.1.1 am_m178.2.1.2.1 ∈ am_ts := am_ts_in (i := 1746) rfl rfl
set_option maxRecDepth 1000000 in
theorem am_cw179 : Cond.code am_m179.1.2.1 am_m179.1.2.2 am_m179.2.1.1 am_m179.2.1.2.1 ∈ am_ts := am_ts_in (i := 1750) rfl rfl

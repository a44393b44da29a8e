set_option maxRecDepth 1000000 in
theorem am_cw180 : Cond.code am_m180.1.2.1 am_m180.1.2.2 am_m180.2.1.1 am_m180.2.1.2.1 ∈ am_ts := am_ts_in (i := 1753) rfl rfl
set_option maxRecDepth 1000000 in
theorem am_cw181 : Cond.code am_m181.1.2.1 am_m181.1.2.2 am_m181.2.1.1 am_m181.2.1.2.1 ∈ am_ts := am_ts_in (i := 1757) rfl rfl
set_option maxRecDepth 1000000 in
theorem am_cw182 : Cond.code am_m182.1.2.1 am_m182.1.2.2 am_m182.2.1.1 am_m182.2.1.2.1 ∈ am_ts := am_ts_in (i := 1761) rfl rfl
set_option maxRecDepth 1000000 in
theorem am_cw183 : Cond.code am_m183.1.2.1 am_m183.1.2.2 am_m183.2.1.1 am_m183.2.1.2.1 ∈ am_ts := am_ts_in (i := 1765) rfl rfl
set_option maxRecDepth 1000000 in
theorem am_cw184 : Cond.code am_m184.1.2.1 am_m184.1.2.2 am_m184.2.1.1 am_m184.2.1.2.1 ∈ am_ts := am_ts_in (i := 1769) rfl rfl
set_option maxRecDepth 1000000 in
theorem am_cw185 : Cond.code am_m185.1.2.1 am_m185.1.2.2 am_m185.2.1.1 am_m185.2.1.2.1 ∈ am_ts := am_ts_in (i := 1773) rfl rfl
set_option maxRecDepth 1000000 in
theorem am_cw186 : Cond.code am_m186.1.2.1 am_m186.1.2.2 am_m186.2.1.1 am_m186.2.1.2.1 ∈ am_ts := am_ts_in (i := 1777) rfl rfl
set_option maxRecDepth 1000000 in
theorem am_cw187 : Cond.code am_m187.1.2.1 am_m187.1.2.2 am_m187.2.1.1 am_m187.2.1.2.1 ∈ am_ts := am_ts_in (i := 1781) rfl rfl
set_option maxRecDepth 1000000 in
theorem am_cw188 : Cond.code am_m188.1.2.1 am_m188.1.2.2 am_m188.2.1.1 am_m188.2.1.2.1 ∈ am_ts := am_ts_in (i := 1786) rfl rfl
set_option maxRecDepth 1000000 in
theorem am_cw189 : Cond.code am_m189.1.2.1 am_m189.1.2.2 am_m189.2.1.1 am_m189.2.1.2.1 ∈ am_ts := am_ts_in (i := 1790) rfl rfl
set_option maxRecDepth 1000000 in
theorem am_cw190 : Cond.code am_m190.1.2.1 am_m190.1.2.2 am_m190.2.1.1 am_m190.2.1.2.1 ∈ am_ts := am_ts_in (i := 1794) rfl rfl
set_option maxRecDepth 1000000 in
theorem am_cw191 : Cond.code am_m191.1.2.1 am_m191.1.2.2 am_m191.2.1.1 am_m191.2.1.2.1 ∈ am_ts := am_ts_in (i := 1798) rfl rfl
set_option maxRecDepth 1000000 in
theorem am_cw192 : Cond.code am_m192.1.2.1 am_m192.1.2.2 am_m192.2.1.1 am_m192.2.1.2.1 ∈ am_ts := am_ts_in (i := 1802) rfl rfl
set_option maxRecDepth 1000000 in
theorem am_cw193 : Cond.code am_m193.1.2.1 am_m193.1.2.2 am_m193.2.1.1 am_m193.2.1.2.1 ∈ am_ts := am_ts_in (i := 1806) rfl rfl
set_option maxRecDepth 1000000 in
theorem am_cw194 : Cond.code am_m194.1.2.1 am_m194.1.2.2 am_m194.2.1.1 am_m194.2.1.2.1 ∈ am_ts := am_ts_in (i := 1812) rfl rfl
set_option maxRecDepth 1000000 in
theorem am_cw195 : Cond.code am_m195.1.2.1 am_m195.1.2.2 am_m195.2.1.1 am_m195.2.1.2.1 ∈ am_ts := am_ts_in (i := 1815) rfl rfl
set_option maxRecDepth 1000000 in
theorem am_cw196 : Cond.code am_m196.1.2.1 am_m196.1.2.2 am_m196.2.1.1 am_m196.2.1.2.1 ∈ am_ts := am_ts_in (i := 1819) rfl rfl
set_option maxRecDepth 1000000 in
theorem am_cw197 : Cond.code am_m197.1.2.1 am_m197.1.2.2 am_m197.2.1.1 am_m197.2.1.2.1 ∈ am_ts := am_ts_in (i := 1823) rfl rfl
set_option maxRecDepth 1000000 in
theorem am_cw198 : Cond.code am_m198.1.2.1 am_m198.1.2.2 am_m198.2.1.1 am_m198.2.1.2.1 ∈ am_ts := am_ts_in (i := 1827) rfl rfl
set_option maxRecDepth 1000000 in
theorem am_cw199 : Cond.code am_m199.1.2.1 am_m199.1.2.2 am_m199.2.1.1 am_m199.2.1.2.1 ∈ am_ts := am_ts_in (i := 1831) rfl rfl
set_option maxRecDepth 1000000 in
theorem am_cw200 : Cond.code am_m200.1.2.1 am_m200.1.2.2 am_m200.2.1.1 am_m200.2.1.2.1 ∈ am_ts := am_ts_in (i := 1835) rfl rfl
set_option maxRecDepth 1000000 in
theorem am_cw201 : Cond.code am_m201.1.2.1 am_m201.1.2.2 am_m201.2.1.1 am_m201.2.1.2.1 ∈ am_ts := am_ts_in (i := 1839) rfl rfl
set_option maxRecDepth 1000000 in
theorem am_cw202 : Cond.code am_m202.1.2.1 am_m202.1.2.2 am_m202.2.1.1 am_m202.2.1.2.1 ∈ am_ts := am_ts_in (i := 1842) rfl rfl
set_option maxRecDepth 1000000 in
theorem am_cw203 : Cond.code am_m203.1.2.1 am_m203.1.2.2 am_m203.2.1.1 am_m203.2.1.2.1 ∈ am_ts := am_ts_in (i := 1846) rfl rfl
set_option maxRecDepth 1000000 in
theorem am_cw204 : Cond.code am_m204.1.2.1 am_m204.1.2.2 am_m204.2.1.1 am_m204.2.1.2.1 ∈ am_ts := am_ts_in (i := 1850) rfl rfl
set_option maxRecDepth 1000000 in
theorem am_cw205 : Cond.code am_m205.1.2.1 am_m205.1.2.2 am_m205.2.1.1 am_m205.2.1.2.1 ∈ am_ts := am_ts_in (i := 1854) rfl rfl
set_option maxRecDepth 1000000 in
theorem am_cw206 : Cond.code am_m206.1.2.1 am_m206.1.2.2 am_m206.2.1.1 am_m206.2.1.2.1 ∈ am_ts := am_ts_in (i := 1858) rfl rfl
set_option maxRecDepth 1000000 in
theorem am_cw207 : Cond.code am_m207.1.2.1 am_m207.1.2.2 am_m207.2.1.1 am_m207.2.1.2.1 ∈ am_ts := am_ts_in (i := 1862) rfl rfl
set_option maxRecDepth 1000000 in
theorem am_cw208 : Cond.code am_m208.1.2.1 am_m208.1.2.2 am_m208.2.1.1 am_m208.2.1.2.1 ∈ am_ts := am_ts_in (i := 1866) rfl rfl
set_option maxRecDepth 1000000 in
theorem am_cw209 : Cond.code am_m209.1.2.1 am_m209.1.2.2 am_m209.2.1.1 am_m209.2.1.2.1 ∈ am_ts := am_ts_in (i := 1870) rfl rfl
set_option maxRecDepth 1000000 in
theorem am_cw210 : Cond.code am_m210.1.2.1 am_m210.1.2.2 am_m210.2.1.1 am_m210.2.1.2.1 ∈ am_ts := am_ts_in (i := 1874) rfl rfl
set_option maxRecDepth 1000000 in
theorem am_cw211 : Cond.code am_m211.1.2.1 am_m211.1.2.2 am_m211.2.1.1 am_m211.2.1.2.1 ∈ am_ts := am_ts_in (i := 1878) rfl rfl
set_option maxRecDepth 1000000 in
theorem am_cw212 : Cond.code am_m212.1.2.1 am_m212.1.2.2 am_m212.2.1.1 am_m212.2.1.2.1 ∈ am_ts := am_ts_in (i := 1882) rfl rfl
set_option maxRecDepth 1000000 in
theorem am_cw213 : Cond.code am_m213.1.2.1 am_m213.1.2.2 am_m213.2.1.1 am_m213.2.1.2.1 ∈ am_ts := am_ts_in (i := 1886) rfl rfl
set_option maxRecDepth 1000000 in
theorem am_cw214 : Cond.code am_m214.1.2.1 am_m214.1.2.2 am_m214.2.1.1 am_m214.2.1.2.1 ∈ am_ts := am_ts_in (i := 1890) rfl rfl
set_option maxRecDepth 1000000 in
theorem am_cw215 : Cond.code am_m215.1.2.1 am_m215.1.2.2 am_m215.2.1.1 am_m215.2.1.2.1 ∈ am_ts := am_ts_in (i := 1894) rfl rfl
set_option maxRecDepth 1000000 in
theorem am_cw216 : Cond.code am_m216.1.2.1 am_m216.1.2.2 am_m216.2.1.1 am_m216.2.1.2.1 ∈ am_ts := am_ts_in (i := 1898) rfl rfl
set_option maxRecDepth 1000000 in
theorem am_cw217 : Cond.code am_m217.1.2.1 am_m217.1.2.2 am_m217.2.1.1 am_m217.2.1.2.1 ∈ am_ts := am_ts_in (i := 1902) rfl rfl
set_option maxRecDepth 1000000 in
theorem am_cw218 : Cond.code am_m218.1.2.1 am_m218.1.2.2 am_m218.2.1.1 am_m218.2.1.2.1 ∈ am_ts := am_ts_in (i := 1906) rfl rfl
set_option maxRecDepth 1000000 in
theorem am_cw219 : Cond.code am_m219.1.2.1 am_m219.1.2.2 am_m219.2.1.1 am_m219.2.1.2.1 ∈ am_ts := am_ts_in (i := 1910) rfl rfl
set_option maxRecDepth 1000000 in
theorem am_cw220 : Cond.code am_m220.1.2.1 am_m220.1.2.2 am_m220.2.1.1 am_m220.2.1.2.1 ∈ am_ts := am_ts_in (i := 1914) rfl rfl
set_option maxRecDepth 1000000 in
theorem am_cw221 : Cond.code am_m221.1.2.1 am_m221.1.2.2 am_m221.2.1.1 am_m221.2.1.2.1 ∈ am_ts := am_ts_in (i := 1918) rfl rfl
set_option maxRecDepth 1000000 in
theorem am_cw222 : Cond.code am_m222.1.2.1 am_m222.1.2.2 am_m222.2.1.1 am_m222.2.1.2.1 ∈ am_ts := am_ts_in (i := 1922) rfl rfl
set_option maxRecDepth 1000000 in
theorem am_cw223 : Cond.code am_m223.1.2.1 am_m223.1.2.2 am_m223.2.1.1 am_m223.2.1.2.1 ∈ am_ts := am_ts_in (i := 1926) rfl rfl
set_option maxRecDepth 1000000 in
theorem am_cw224 : Cond.code am_m224.1.2.1 am_m224.1.2.2 am_m224.2.1.1 am_m224.2.1.2.1 ∈ am_ts := am_ts_in (i := 1930) rfl rfl

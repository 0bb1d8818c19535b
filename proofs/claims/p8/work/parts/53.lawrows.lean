def sL_law_2073 : List Nat := 172 :: []
def sL_law_2072 : List Nat := 4 :: sL_law_2073
def sL_law_2069 : List Nat := 167 :: 248 :: 2 :: sL_law_2072
def sL_law_2066 : List Nat := 132 :: 4 :: 6 :: sL_law_2069
def sL_law_2063 : List Nat := 167 :: 0 :: 3 :: sL_law_2066
def sL_law_2061 : List Nat := 54 :: 6 :: sL_law_2063
def sL_law_2058 : List Nat := 182 :: 1 :: 11 :: sL_law_2061
def sL_law_2057 : List Nat := 46 :: sL_law_2058
def sL_law_2056 : List Nat := 96 :: sL_law_2057
def sL_law_2055 : List Nat := 5 :: sL_law_2056
def sL_law_2053 : List Nat := 21 :: 4 :: sL_law_2055
def sL_law_2052 : List Nat := 42 :: sL_law_2053
def sL_law_2051 : List Nat := 46 :: sL_law_2052
def sL_law_2050 : List Nat := 96 :: sL_law_2051
def sL_law_2049 : List Nat := 4 :: sL_law_2050
def sL_law_2047 : List Nat := 21 :: 4 :: sL_law_2049
def sL_law_2046 : List Nat := 42 :: sL_law_2047
def sL_law_2045 : List Nat := 44 :: sL_law_2046
def sL_law_2043 : List Nat := 54 :: 5 :: sL_law_2045
def sL_law_2040 : List Nat := 184 :: 1 :: 9 :: sL_law_2043
def sL_law_2039 : List Nat := 45 :: sL_law_2040
def sL_law_2038 : List Nat := 46 :: sL_law_2039
def sL_law_2037 : List Nat := 96 :: sL_law_2038
def sL_law_2036 : List Nat := 5 :: sL_law_2037
def sL_law_2034 : List Nat := 21 :: 4 :: sL_law_2036
def sL_law_2033 : List Nat := 42 :: sL_law_2034
def sL_law_2032 : List Nat := 46 :: sL_law_2033
def sL_law_2031 : List Nat := 96 :: sL_law_2032
def sL_law_2030 : List Nat := 4 :: sL_law_2031
def sL_law_2028 : List Nat := 21 :: 4 :: sL_law_2030
def sL_law_2027 : List Nat := 42 :: sL_law_2028
def sL_law_2026 : List Nat := 43 :: sL_law_2027
def sL_law_2023 : List Nat := 167 :: 0 :: 43 :: sL_law_2026
def sL_law_2021 : List Nat := 54 :: 6 :: sL_law_2023
def sL_law_2018 : List Nat := 182 :: 1 :: 8 :: sL_law_2021
def sL_law_2017 : List Nat := 46 :: sL_law_2018
def sL_law_2016 : List Nat := 96 :: sL_law_2017
def sL_law_2015 : List Nat := 4 :: sL_law_2016
def sL_law_2013 : List Nat := 21 :: 4 :: sL_law_2015
def sL_law_2012 : List Nat := 42 :: sL_law_2013
def sL_law_2011 : List Nat := 44 :: sL_law_2012
def sL_law_2009 : List Nat := 54 :: 5 :: sL_law_2011
def sL_law_2006 : List Nat := 184 :: 1 :: 6 :: sL_law_2009
def sL_law_2005 : List Nat := 45 :: sL_law_2006
def sL_law_2004 : List Nat := 46 :: sL_law_2005
def sL_law_2003 : List Nat := 96 :: sL_law_2004
def sL_law_2002 : List Nat := 4 :: sL_law_2003
def sL_law_2000 : List Nat := 21 :: 4 :: sL_law_2002
def sL_law_1999 : List Nat := 42 :: sL_law_2000
def sL_law_1998 : List Nat := 43 :: sL_law_1999
def sL_law_1995 : List Nat := 167 :: 0 :: 71 :: sL_law_1998
def sL_law_1993 : List Nat := 54 :: 6 :: sL_law_1995
def sL_law_1990 : List Nat := 182 :: 1 :: 5 :: sL_law_1993
def sL_law_1989 : List Nat := 46 :: sL_law_1990
def sL_law_1988 : List Nat := 96 :: sL_law_1989
def sL_law_1987 : List Nat := 5 :: sL_law_1988
def sL_law_1985 : List Nat := 21 :: 4 :: sL_law_1987
def sL_law_1984 : List Nat := 42 :: sL_law_1985
def sL_law_1983 : List Nat := 46 :: sL_law_1984
def sL_law_1982 : List Nat := 96 :: sL_law_1983
def sL_law_1981 : List Nat := 4 :: sL_law_1982
def sL_law_1979 : List Nat := 21 :: 4 :: sL_law_1981
def sL_law_1978 : List Nat := 42 :: sL_law_1979
def sL_law_1977 : List Nat := 44 :: sL_law_1978
def sL_law_1975 : List Nat := 54 :: 5 :: sL_law_1977
def sL_law_1972 : List Nat := 184 :: 1 :: 3 :: sL_law_1975
def sL_law_1971 : List Nat := 45 :: sL_law_1972
def sL_law_1970 : List Nat := 46 :: sL_law_1971
def sL_law_1969 : List Nat := 96 :: sL_law_1970
def sL_law_1968 : List Nat := 5 :: sL_law_1969
def sL_law_1966 : List Nat := 21 :: 4 :: sL_law_1968
def sL_law_1965 : List Nat := 42 :: sL_law_1966
def sL_law_1964 : List Nat := 46 :: sL_law_1965
def sL_law_1963 : List Nat := 96 :: sL_law_1964
def sL_law_1962 : List Nat := 4 :: sL_law_1963
def sL_law_1960 : List Nat := 21 :: 4 :: sL_law_1962
def sL_law_1959 : List Nat := 42 :: sL_law_1960
def sL_law_1958 : List Nat := 43 :: sL_law_1959
def sL_law_1955 : List Nat := 167 :: 0 :: 111 :: sL_law_1958
def sL_law_1953 : List Nat := 54 :: 6 :: sL_law_1955
def sL_law_1950 : List Nat := 182 :: 1 :: 2 :: sL_law_1953
def sL_law_1949 : List Nat := 46 :: sL_law_1950
def sL_law_1948 : List Nat := 96 :: sL_law_1949
def sL_law_1947 : List Nat := 6 :: sL_law_1948
def sL_law_1945 : List Nat := 21 :: 4 :: sL_law_1947
def sL_law_1944 : List Nat := 42 :: sL_law_1945
def sL_law_1943 : List Nat := 46 :: sL_law_1944
def sL_law_1942 : List Nat := 96 :: sL_law_1943
def sL_law_1941 : List Nat := 5 :: sL_law_1942
def sL_law_1939 : List Nat := 21 :: 4 :: sL_law_1941
def sL_law_1938 : List Nat := 42 :: sL_law_1939
def sL_law_1937 : List Nat := 46 :: sL_law_1938
def sL_law_1936 : List Nat := 96 :: sL_law_1937
def sL_law_1935 : List Nat := 4 :: sL_law_1936
def sL_law_1933 : List Nat := 21 :: 4 :: sL_law_1935
def sL_law_1932 : List Nat := 42 :: sL_law_1933
def sL_law_1931 : List Nat := 44 :: sL_law_1932
def sL_law_1929 : List Nat := 54 :: 5 :: sL_law_1931
def sL_law_1926 : List Nat := 184 :: 1 :: 0 :: sL_law_1929
def sL_law_1925 : List Nat := 45 :: sL_law_1926
def sL_law_1924 : List Nat := 46 :: sL_law_1925
def sL_law_1923 : List Nat := 96 :: sL_law_1924
def sL_law_1922 : List Nat := 6 :: sL_law_1923
def sL_law_1920 : List Nat := 21 :: 4 :: sL_law_1922
def sL_law_1919 : List Nat := 42 :: sL_law_1920
def sL_law_1918 : List Nat := 46 :: sL_law_1919
def sL_law_1917 : List Nat := 96 :: sL_law_1918
def sL_law_1916 : List Nat := 5 :: sL_law_1917
def sL_law_1914 : List Nat := 21 :: 4 :: sL_law_1916
def sL_law_1913 : List Nat := 42 :: sL_law_1914
def sL_law_1912 : List Nat := 46 :: sL_law_1913
def sL_law_1911 : List Nat := 96 :: sL_law_1912
def sL_law_1910 : List Nat := 4 :: sL_law_1911
def sL_law_1908 : List Nat := 21 :: 4 :: sL_law_1910
def sL_law_1907 : List Nat := 42 :: sL_law_1908
def sL_law_1906 : List Nat := 43 :: sL_law_1907
def sL_law_1903 : List Nat := 167 :: 0 :: 163 :: sL_law_1906
def sL_law_1901 : List Nat := 54 :: 6 :: sL_law_1903
def sL_law_1898 : List Nat := 182 :: 0 :: 255 :: sL_law_1901
def sL_law_1897 : List Nat := 46 :: sL_law_1898
def sL_law_1896 : List Nat := 96 :: sL_law_1897
def sL_law_1895 : List Nat := 4 :: sL_law_1896
def sL_law_1893 : List Nat := 21 :: 4 :: sL_law_1895
def sL_law_1892 : List Nat := 42 :: sL_law_1893
def sL_law_1891 : List Nat := 44 :: sL_law_1892
def sL_law_1889 : List Nat := 54 :: 5 :: sL_law_1891
def sL_law_1886 : List Nat := 184 :: 0 :: 253 :: sL_law_1889
def sL_law_1885 : List Nat := 45 :: sL_law_1886
def sL_law_1884 : List Nat := 46 :: sL_law_1885
def sL_law_1883 : List Nat := 96 :: sL_law_1884
def sL_law_1882 : List Nat := 4 :: sL_law_1883
def sL_law_1880 : List Nat := 21 :: 4 :: sL_law_1882
def sL_law_1879 : List Nat := 42 :: sL_law_1880
def sL_law_1878 : List Nat := 43 :: sL_law_1879
def sL_law_1875 : List Nat := 167 :: 0 :: 191 :: sL_law_1878
def sL_law_1874 : List Nat := 87 :: sL_law_1875
def sL_law_1871 : List Nat := 182 :: 0 :: 252 :: sL_law_1874
def sL_law_1870 : List Nat := 44 :: sL_law_1871
def sL_law_1869 : List Nat := 87 :: sL_law_1870
def sL_law_1866 : List Nat := 182 :: 0 :: 249 :: sL_law_1869
def sL_law_1865 : List Nat := 43 :: sL_law_1866
def sL_law_1862 : List Nat := 167 :: 0 :: 204 :: sL_law_1865
def sL_law_1860 : List Nat := 54 :: 6 :: sL_law_1862
def sL_law_1857 : List Nat := 182 :: 0 :: 248 :: sL_law_1860
def sL_law_1856 : List Nat := 46 :: sL_law_1857
def sL_law_1855 : List Nat := 96 :: sL_law_1856
def sL_law_1854 : List Nat := 5 :: sL_law_1855
def sL_law_1852 : List Nat := 21 :: 4 :: sL_law_1854
def sL_law_1851 : List Nat := 42 :: sL_law_1852
def sL_law_1850 : List Nat := 46 :: sL_law_1851
def sL_law_1849 : List Nat := 96 :: sL_law_1850
def sL_law_1848 : List Nat := 4 :: sL_law_1849
def sL_law_1846 : List Nat := 21 :: 4 :: sL_law_1848
def sL_law_1845 : List Nat := 42 :: sL_law_1846
def sL_law_1844 : List Nat := 44 :: sL_law_1845
def sL_law_1842 : List Nat := 54 :: 5 :: sL_law_1844
def sL_law_1839 : List Nat := 184 :: 0 :: 246 :: sL_law_1842
def sL_law_1838 : List Nat := 45 :: sL_law_1839
def sL_law_1837 : List Nat := 46 :: sL_law_1838
def sL_law_1836 : List Nat := 96 :: sL_law_1837
def sL_law_1835 : List Nat := 5 :: sL_law_1836
def sL_law_1833 : List Nat := 21 :: 4 :: sL_law_1835
def sL_law_1832 : List Nat := 42 :: sL_law_1833
def sL_law_1831 : List Nat := 46 :: sL_law_1832
def sL_law_1830 : List Nat := 96 :: sL_law_1831
def sL_law_1829 : List Nat := 4 :: sL_law_1830
def sL_law_1827 : List Nat := 21 :: 4 :: sL_law_1829
def sL_law_1826 : List Nat := 42 :: sL_law_1827
def sL_law_1825 : List Nat := 43 :: sL_law_1826
def sL_law_1822 : List Nat := 167 :: 0 :: 244 :: sL_law_1825
def sL_law_1820 : List Nat := 54 :: 6 :: sL_law_1822
def sL_law_1817 : List Nat := 182 :: 0 :: 245 :: sL_law_1820
def sL_law_1816 : List Nat := 46 :: sL_law_1817
def sL_law_1815 : List Nat := 96 :: sL_law_1816
def sL_law_1814 : List Nat := 6 :: sL_law_1815
def sL_law_1812 : List Nat := 21 :: 4 :: sL_law_1814
def sL_law_1811 : List Nat := 42 :: sL_law_1812
def sL_law_1810 : List Nat := 46 :: sL_law_1811
def sL_law_1809 : List Nat := 96 :: sL_law_1810
def sL_law_1808 : List Nat := 5 :: sL_law_1809
def sL_law_1806 : List Nat := 21 :: 4 :: sL_law_1808
def sL_law_1805 : List Nat := 42 :: sL_law_1806
def sL_law_1804 : List Nat := 46 :: sL_law_1805
def sL_law_1803 : List Nat := 96 :: sL_law_1804
def sL_law_1802 : List Nat := 4 :: sL_law_1803
def sL_law_1800 : List Nat := 21 :: 4 :: sL_law_1802
def sL_law_1799 : List Nat := 42 :: sL_law_1800
def sL_law_1798 : List Nat := 44 :: sL_law_1799
def sL_law_1796 : List Nat := 54 :: 5 :: sL_law_1798
def sL_law_1793 : List Nat := 184 :: 0 :: 243 :: sL_law_1796
def sL_law_1792 : List Nat := 45 :: sL_law_1793
def sL_law_1791 : List Nat := 46 :: sL_law_1792
def sL_law_1790 : List Nat := 96 :: sL_law_1791
def sL_law_1789 : List Nat := 6 :: sL_law_1790
def sL_law_1787 : List Nat := 21 :: 4 :: sL_law_1789
def sL_law_1786 : List Nat := 42 :: sL_law_1787
def sL_law_1785 : List Nat := 46 :: sL_law_1786
def sL_law_1784 : List Nat := 96 :: sL_law_1785
def sL_law_1783 : List Nat := 5 :: sL_law_1784
def sL_law_1781 : List Nat := 21 :: 4 :: sL_law_1783
def sL_law_1780 : List Nat := 42 :: sL_law_1781
def sL_law_1779 : List Nat := 46 :: sL_law_1780
def sL_law_1778 : List Nat := 96 :: sL_law_1779
def sL_law_1777 : List Nat := 4 :: sL_law_1778
def sL_law_1775 : List Nat := 21 :: 4 :: sL_law_1777
def sL_law_1774 : List Nat := 42 :: sL_law_1775
def sL_law_1773 : List Nat := 43 :: sL_law_1774
def sL_law_1770 : List Nat := 167 :: 1 :: 40 :: sL_law_1773
def sL_law_1768 : List Nat := 54 :: 6 :: sL_law_1770
def sL_law_1765 : List Nat := 182 :: 0 :: 242 :: sL_law_1768
def sL_law_1764 : List Nat := 46 :: sL_law_1765
def sL_law_1763 : List Nat := 96 :: sL_law_1764
def sL_law_1762 : List Nat := 6 :: sL_law_1763
def sL_law_1760 : List Nat := 21 :: 4 :: sL_law_1762
def sL_law_1759 : List Nat := 42 :: sL_law_1760
def sL_law_1758 : List Nat := 46 :: sL_law_1759
def sL_law_1757 : List Nat := 96 :: sL_law_1758
def sL_law_1756 : List Nat := 5 :: sL_law_1757
def sL_law_1754 : List Nat := 21 :: 4 :: sL_law_1756
def sL_law_1753 : List Nat := 42 :: sL_law_1754
def sL_law_1752 : List Nat := 46 :: sL_law_1753
def sL_law_1751 : List Nat := 96 :: sL_law_1752
def sL_law_1750 : List Nat := 4 :: sL_law_1751
def sL_law_1748 : List Nat := 21 :: 4 :: sL_law_1750
def sL_law_1747 : List Nat := 42 :: sL_law_1748
def sL_law_1746 : List Nat := 44 :: sL_law_1747
def sL_law_1744 : List Nat := 54 :: 5 :: sL_law_1746
def sL_law_1741 : List Nat := 184 :: 0 :: 240 :: sL_law_1744
def sL_law_1740 : List Nat := 45 :: sL_law_1741
def sL_law_1739 : List Nat := 46 :: sL_law_1740
def sL_law_1738 : List Nat := 96 :: sL_law_1739
def sL_law_1737 : List Nat := 6 :: sL_law_1738
def sL_law_1735 : List Nat := 21 :: 4 :: sL_law_1737
def sL_law_1734 : List Nat := 42 :: sL_law_1735
def sL_law_1733 : List Nat := 46 :: sL_law_1734
def sL_law_1732 : List Nat := 96 :: sL_law_1733
def sL_law_1731 : List Nat := 5 :: sL_law_1732
def sL_law_1729 : List Nat := 21 :: 4 :: sL_law_1731
def sL_law_1728 : List Nat := 42 :: sL_law_1729
def sL_law_1727 : List Nat := 46 :: sL_law_1728
def sL_law_1726 : List Nat := 96 :: sL_law_1727
def sL_law_1725 : List Nat := 4 :: sL_law_1726
def sL_law_1723 : List Nat := 21 :: 4 :: sL_law_1725
def sL_law_1722 : List Nat := 42 :: sL_law_1723
def sL_law_1721 : List Nat := 43 :: sL_law_1722
def sL_law_1718 : List Nat := 167 :: 1 :: 92 :: sL_law_1721
def sL_law_1716 : List Nat := 54 :: 6 :: sL_law_1718
def sL_law_1713 : List Nat := 182 :: 0 :: 239 :: sL_law_1716
def sL_law_1712 : List Nat := 46 :: sL_law_1713
def sL_law_1711 : List Nat := 96 :: sL_law_1712
def sL_law_1710 : List Nat := 5 :: sL_law_1711
def sL_law_1708 : List Nat := 21 :: 4 :: sL_law_1710
def sL_law_1707 : List Nat := 42 :: sL_law_1708
def sL_law_1706 : List Nat := 46 :: sL_law_1707
def sL_law_1705 : List Nat := 96 :: sL_law_1706
def sL_law_1704 : List Nat := 4 :: sL_law_1705
def sL_law_1702 : List Nat := 21 :: 4 :: sL_law_1704
def sL_law_1701 : List Nat := 42 :: sL_law_1702
def sL_law_1700 : List Nat := 44 :: sL_law_1701
def sL_law_1698 : List Nat := 54 :: 5 :: sL_law_1700
def sL_law_1695 : List Nat := 184 :: 0 :: 237 :: sL_law_1698
def sL_law_1694 : List Nat := 45 :: sL_law_1695
def sL_law_1693 : List Nat := 46 :: sL_law_1694
def sL_law_1692 : List Nat := 96 :: sL_law_1693
def sL_law_1691 : List Nat := 5 :: sL_law_1692
def sL_law_1689 : List Nat := 21 :: 4 :: sL_law_1691
def sL_law_1688 : List Nat := 42 :: sL_law_1689
def sL_law_1687 : List Nat := 46 :: sL_law_1688
def sL_law_1686 : List Nat := 96 :: sL_law_1687
def sL_law_1685 : List Nat := 4 :: sL_law_1686
def sL_law_1683 : List Nat := 21 :: 4 :: sL_law_1685
def sL_law_1682 : List Nat := 42 :: sL_law_1683
def sL_law_1681 : List Nat := 43 :: sL_law_1682
def sL_law_1678 : List Nat := 167 :: 1 :: 132 :: sL_law_1681
def sL_law_1676 : List Nat := 54 :: 6 :: sL_law_1678
def sL_law_1673 : List Nat := 182 :: 0 :: 236 :: sL_law_1676
def sL_law_1672 : List Nat := 46 :: sL_law_1673
def sL_law_1671 : List Nat := 96 :: sL_law_1672
def sL_law_1670 : List Nat := 6 :: sL_law_1671
def sL_law_1668 : List Nat := 21 :: 4 :: sL_law_1670
def sL_law_1667 : List Nat := 42 :: sL_law_1668
def sL_law_1666 : List Nat := 46 :: sL_law_1667
def sL_law_1665 : List Nat := 96 :: sL_law_1666
def sL_law_1664 : List Nat := 5 :: sL_law_1665
def sL_law_1662 : List Nat := 21 :: 4 :: sL_law_1664
def sL_law_1661 : List Nat := 42 :: sL_law_1662
def sL_law_1660 : List Nat := 46 :: sL_law_1661
def sL_law_1659 : List Nat := 96 :: sL_law_1660
def sL_law_1658 : List Nat := 4 :: sL_law_1659
def sL_law_1656 : List Nat := 21 :: 4 :: sL_law_1658
def sL_law_1655 : List Nat := 42 :: sL_law_1656
def sL_law_1654 : List Nat := 44 :: sL_law_1655
def sL_law_1652 : List Nat := 54 :: 5 :: sL_law_1654
def sL_law_1649 : List Nat := 184 :: 0 :: 234 :: sL_law_1652
def sL_law_1648 : List Nat := 45 :: sL_law_1649
def sL_law_1647 : List Nat := 46 :: sL_law_1648
def sL_law_1646 : List Nat := 96 :: sL_law_1647
def sL_law_1645 : List Nat := 6 :: sL_law_1646
def sL_law_1643 : List Nat := 21 :: 4 :: sL_law_1645
def sL_law_1642 : List Nat := 42 :: sL_law_1643
def sL_law_1641 : List Nat := 46 :: sL_law_1642
def sL_law_1640 : List Nat := 96 :: sL_law_1641
def sL_law_1639 : List Nat := 5 :: sL_law_1640
def sL_law_1637 : List Nat := 21 :: 4 :: sL_law_1639
def sL_law_1636 : List Nat := 42 :: sL_law_1637
def sL_law_1635 : List Nat := 46 :: sL_law_1636
def sL_law_1634 : List Nat := 96 :: sL_law_1635
def sL_law_1633 : List Nat := 4 :: sL_law_1634
def sL_law_1631 : List Nat := 21 :: 4 :: sL_law_1633
def sL_law_1630 : List Nat := 42 :: sL_law_1631
def sL_law_1629 : List Nat := 43 :: sL_law_1630
def sL_law_1626 : List Nat := 167 :: 1 :: 184 :: sL_law_1629
def sL_law_1624 : List Nat := 54 :: 6 :: sL_law_1626
def sL_law_1621 : List Nat := 182 :: 0 :: 233 :: sL_law_1624
def sL_law_1620 : List Nat := 46 :: sL_law_1621
def sL_law_1619 : List Nat := 96 :: sL_law_1620
def sL_law_1618 : List Nat := 5 :: sL_law_1619
def sL_law_1616 : List Nat := 21 :: 4 :: sL_law_1618
def sL_law_1615 : List Nat := 42 :: sL_law_1616
def sL_law_1614 : List Nat := 46 :: sL_law_1615
def sL_law_1613 : List Nat := 96 :: sL_law_1614
def sL_law_1612 : List Nat := 4 :: sL_law_1613
def sL_law_1610 : List Nat := 21 :: 4 :: sL_law_1612
def sL_law_1609 : List Nat := 42 :: sL_law_1610
def sL_law_1608 : List Nat := 44 :: sL_law_1609
def sL_law_1606 : List Nat := 54 :: 5 :: sL_law_1608
def sL_law_1603 : List Nat := 184 :: 0 :: 231 :: sL_law_1606
def sL_law_1602 : List Nat := 45 :: sL_law_1603
def sL_law_1601 : List Nat := 46 :: sL_law_1602
def sL_law_1600 : List Nat := 96 :: sL_law_1601
def sL_law_1599 : List Nat := 5 :: sL_law_1600
def sL_law_1597 : List Nat := 21 :: 4 :: sL_law_1599
def sL_law_1596 : List Nat := 42 :: sL_law_1597
def sL_law_1595 : List Nat := 46 :: sL_law_1596
def sL_law_1594 : List Nat := 96 :: sL_law_1595
def sL_law_1593 : List Nat := 4 :: sL_law_1594
def sL_law_1591 : List Nat := 21 :: 4 :: sL_law_1593
def sL_law_1590 : List Nat := 42 :: sL_law_1591
def sL_law_1589 : List Nat := 43 :: sL_law_1590
def sL_law_1586 : List Nat := 167 :: 1 :: 224 :: sL_law_1589
def sL_law_1584 : List Nat := 54 :: 6 :: sL_law_1586
def sL_law_1581 : List Nat := 182 :: 0 :: 230 :: sL_law_1584
def sL_law_1580 : List Nat := 46 :: sL_law_1581
def sL_law_1579 : List Nat := 96 :: sL_law_1580
def sL_law_1578 : List Nat := 6 :: sL_law_1579
def sL_law_1576 : List Nat := 21 :: 4 :: sL_law_1578
def sL_law_1575 : List Nat := 42 :: sL_law_1576
def sL_law_1574 : List Nat := 46 :: sL_law_1575
def sL_law_1573 : List Nat := 96 :: sL_law_1574
def sL_law_1572 : List Nat := 5 :: sL_law_1573
def sL_law_1570 : List Nat := 21 :: 4 :: sL_law_1572
def sL_law_1569 : List Nat := 42 :: sL_law_1570
def sL_law_1568 : List Nat := 46 :: sL_law_1569
def sL_law_1567 : List Nat := 96 :: sL_law_1568
def sL_law_1566 : List Nat := 4 :: sL_law_1567
def sL_law_1564 : List Nat := 21 :: 4 :: sL_law_1566
def sL_law_1563 : List Nat := 42 :: sL_law_1564
def sL_law_1562 : List Nat := 44 :: sL_law_1563
def sL_law_1560 : List Nat := 54 :: 5 :: sL_law_1562
def sL_law_1557 : List Nat := 184 :: 0 :: 228 :: sL_law_1560
def sL_law_1556 : List Nat := 45 :: sL_law_1557
def sL_law_1555 : List Nat := 46 :: sL_law_1556
def sL_law_1554 : List Nat := 96 :: sL_law_1555
def sL_law_1553 : List Nat := 6 :: sL_law_1554
def sL_law_1551 : List Nat := 21 :: 4 :: sL_law_1553
def sL_law_1550 : List Nat := 42 :: sL_law_1551
def sL_law_1549 : List Nat := 46 :: sL_law_1550
def sL_law_1548 : List Nat := 96 :: sL_law_1549
def sL_law_1547 : List Nat := 5 :: sL_law_1548
def sL_law_1545 : List Nat := 21 :: 4 :: sL_law_1547
def sL_law_1544 : List Nat := 42 :: sL_law_1545
def sL_law_1543 : List Nat := 46 :: sL_law_1544
def sL_law_1542 : List Nat := 96 :: sL_law_1543
def sL_law_1541 : List Nat := 4 :: sL_law_1542
def sL_law_1539 : List Nat := 21 :: 4 :: sL_law_1541
def sL_law_1538 : List Nat := 42 :: sL_law_1539
def sL_law_1537 : List Nat := 43 :: sL_law_1538
def sL_law_1534 : List Nat := 167 :: 2 :: 20 :: sL_law_1537
def sL_law_1532 : List Nat := 54 :: 6 :: sL_law_1534
def sL_law_1529 : List Nat := 182 :: 0 :: 227 :: sL_law_1532
def sL_law_1528 : List Nat := 46 :: sL_law_1529
def sL_law_1527 : List Nat := 96 :: sL_law_1528
def sL_law_1526 : List Nat := 7 :: sL_law_1527
def sL_law_1524 : List Nat := 21 :: 4 :: sL_law_1526
def sL_law_1523 : List Nat := 42 :: sL_law_1524
def sL_law_1522 : List Nat := 46 :: sL_law_1523
def sL_law_1521 : List Nat := 96 :: sL_law_1522
def sL_law_1520 : List Nat := 6 :: sL_law_1521
def sL_law_1518 : List Nat := 21 :: 4 :: sL_law_1520
def sL_law_1517 : List Nat := 42 :: sL_law_1518
def sL_law_1516 : List Nat := 46 :: sL_law_1517
def sL_law_1515 : List Nat := 96 :: sL_law_1516
def sL_law_1514 : List Nat := 5 :: sL_law_1515
def sL_law_1512 : List Nat := 21 :: 4 :: sL_law_1514
def sL_law_1511 : List Nat := 42 :: sL_law_1512
def sL_law_1510 : List Nat := 46 :: sL_law_1511
def sL_law_1509 : List Nat := 96 :: sL_law_1510
def sL_law_1508 : List Nat := 4 :: sL_law_1509
def sL_law_1506 : List Nat := 21 :: 4 :: sL_law_1508
def sL_law_1505 : List Nat := 42 :: sL_law_1506
def sL_law_1504 : List Nat := 44 :: sL_law_1505
def sL_law_1502 : List Nat := 54 :: 5 :: sL_law_1504
def sL_law_1499 : List Nat := 184 :: 0 :: 225 :: sL_law_1502
def sL_law_1498 : List Nat := 45 :: sL_law_1499
def sL_law_1497 : List Nat := 46 :: sL_law_1498
def sL_law_1496 : List Nat := 96 :: sL_law_1497
def sL_law_1495 : List Nat := 7 :: sL_law_1496
def sL_law_1493 : List Nat := 21 :: 4 :: sL_law_1495
def sL_law_1492 : List Nat := 42 :: sL_law_1493
def sL_law_1491 : List Nat := 46 :: sL_law_1492
def sL_law_1490 : List Nat := 96 :: sL_law_1491
def sL_law_1489 : List Nat := 6 :: sL_law_1490
def sL_law_1487 : List Nat := 21 :: 4 :: sL_law_1489
def sL_law_1486 : List Nat := 42 :: sL_law_1487
def sL_law_1485 : List Nat := 46 :: sL_law_1486
def sL_law_1484 : List Nat := 96 :: sL_law_1485
def sL_law_1483 : List Nat := 5 :: sL_law_1484
def sL_law_1481 : List Nat := 21 :: 4 :: sL_law_1483
def sL_law_1480 : List Nat := 42 :: sL_law_1481
def sL_law_1479 : List Nat := 46 :: sL_law_1480
def sL_law_1478 : List Nat := 96 :: sL_law_1479
def sL_law_1477 : List Nat := 4 :: sL_law_1478
def sL_law_1475 : List Nat := 21 :: 4 :: sL_law_1477
def sL_law_1474 : List Nat := 42 :: sL_law_1475
def sL_law_1473 : List Nat := 43 :: sL_law_1474
def sL_law_1470 : List Nat := 167 :: 2 :: 84 :: sL_law_1473
def sL_law_1468 : List Nat := 54 :: 6 :: sL_law_1470
def sL_law_1465 : List Nat := 182 :: 0 :: 224 :: sL_law_1468
def sL_law_1464 : List Nat := 46 :: sL_law_1465
def sL_law_1463 : List Nat := 96 :: sL_law_1464
def sL_law_1462 : List Nat := 8 :: sL_law_1463
def sL_law_1460 : List Nat := 21 :: 4 :: sL_law_1462
def sL_law_1459 : List Nat := 42 :: sL_law_1460
def sL_law_1458 : List Nat := 46 :: sL_law_1459
def sL_law_1457 : List Nat := 96 :: sL_law_1458
def sL_law_1456 : List Nat := 7 :: sL_law_1457
def sL_law_1454 : List Nat := 21 :: 4 :: sL_law_1456
def sL_law_1453 : List Nat := 42 :: sL_law_1454
def sL_law_1452 : List Nat := 46 :: sL_law_1453
def sL_law_1451 : List Nat := 96 :: sL_law_1452
def sL_law_1450 : List Nat := 6 :: sL_law_1451
def sL_law_1448 : List Nat := 21 :: 4 :: sL_law_1450
def sL_law_1447 : List Nat := 42 :: sL_law_1448
def sL_law_1446 : List Nat := 46 :: sL_law_1447
def sL_law_1445 : List Nat := 96 :: sL_law_1446
def sL_law_1444 : List Nat := 5 :: sL_law_1445
def sL_law_1442 : List Nat := 21 :: 4 :: sL_law_1444
def sL_law_1441 : List Nat := 42 :: sL_law_1442
def sL_law_1440 : List Nat := 46 :: sL_law_1441
def sL_law_1439 : List Nat := 96 :: sL_law_1440
def sL_law_1438 : List Nat := 4 :: sL_law_1439
def sL_law_1436 : List Nat := 21 :: 4 :: sL_law_1438
def sL_law_1435 : List Nat := 42 :: sL_law_1436
def sL_law_1434 : List Nat := 44 :: sL_law_1435
def sL_law_1432 : List Nat := 54 :: 5 :: sL_law_1434
def sL_law_1429 : List Nat := 184 :: 0 :: 222 :: sL_law_1432
def sL_law_1428 : List Nat := 45 :: sL_law_1429
def sL_law_1427 : List Nat := 46 :: sL_law_1428
def sL_law_1426 : List Nat := 96 :: sL_law_1427
def sL_law_1425 : List Nat := 8 :: sL_law_1426
def sL_law_1423 : List Nat := 21 :: 4 :: sL_law_1425
def sL_law_1422 : List Nat := 42 :: sL_law_1423
def sL_law_1421 : List Nat := 46 :: sL_law_1422
def sL_law_1420 : List Nat := 96 :: sL_law_1421
def sL_law_1419 : List Nat := 7 :: sL_law_1420
def sL_law_1417 : List Nat := 21 :: 4 :: sL_law_1419
def sL_law_1416 : List Nat := 42 :: sL_law_1417
def sL_law_1415 : List Nat := 46 :: sL_law_1416
def sL_law_1414 : List Nat := 96 :: sL_law_1415
def sL_law_1413 : List Nat := 6 :: sL_law_1414
def sL_law_1411 : List Nat := 21 :: 4 :: sL_law_1413
def sL_law_1410 : List Nat := 42 :: sL_law_1411
def sL_law_1409 : List Nat := 46 :: sL_law_1410
def sL_law_1408 : List Nat := 96 :: sL_law_1409
def sL_law_1407 : List Nat := 5 :: sL_law_1408
def sL_law_1405 : List Nat := 21 :: 4 :: sL_law_1407
def sL_law_1404 : List Nat := 42 :: sL_law_1405
def sL_law_1403 : List Nat := 46 :: sL_law_1404
def sL_law_1402 : List Nat := 96 :: sL_law_1403
def sL_law_1401 : List Nat := 4 :: sL_law_1402
def sL_law_1399 : List Nat := 21 :: 4 :: sL_law_1401
def sL_law_1398 : List Nat := 42 :: sL_law_1399
def sL_law_1397 : List Nat := 43 :: sL_law_1398
def sL_law_1394 : List Nat := 167 :: 2 :: 160 :: sL_law_1397
def sL_law_1393 : List Nat := 87 :: sL_law_1394
def sL_law_1390 : List Nat := 182 :: 0 :: 221 :: sL_law_1393
def sL_law_1389 : List Nat := 44 :: sL_law_1390
def sL_law_1388 : List Nat := 87 :: sL_law_1389
def sL_law_1385 : List Nat := 182 :: 0 :: 218 :: sL_law_1388
def sL_law_1384 : List Nat := 43 :: sL_law_1385
def sL_law_1381 : List Nat := 167 :: 2 :: 173 :: sL_law_1384
def sL_law_1380 : List Nat := 87 :: sL_law_1381
def sL_law_1377 : List Nat := 182 :: 0 :: 217 :: sL_law_1380
def sL_law_1376 : List Nat := 44 :: sL_law_1377
def sL_law_1375 : List Nat := 87 :: sL_law_1376
def sL_law_1372 : List Nat := 182 :: 0 :: 213 :: sL_law_1375
def sL_law_1371 : List Nat := 43 :: sL_law_1372
def sL_law_1368 : List Nat := 167 :: 2 :: 186 :: sL_law_1371
def sL_law_1366 : List Nat := 54 :: 6 :: sL_law_1368
def sL_law_1363 : List Nat := 182 :: 0 :: 212 :: sL_law_1366
def sL_law_1362 : List Nat := 46 :: sL_law_1363
def sL_law_1361 : List Nat := 96 :: sL_law_1362
def sL_law_1360 : List Nat := 4 :: sL_law_1361
def sL_law_1358 : List Nat := 21 :: 4 :: sL_law_1360
def sL_law_1357 : List Nat := 42 :: sL_law_1358
def sL_law_1356 : List Nat := 44 :: sL_law_1357
def sL_law_1354 : List Nat := 54 :: 5 :: sL_law_1356
def sL_law_1351 : List Nat := 184 :: 0 :: 210 :: sL_law_1354
def sL_law_1350 : List Nat := 45 :: sL_law_1351
def sL_law_1349 : List Nat := 46 :: sL_law_1350
def sL_law_1348 : List Nat := 96 :: sL_law_1349
def sL_law_1347 : List Nat := 4 :: sL_law_1348
def sL_law_1345 : List Nat := 21 :: 4 :: sL_law_1347
def sL_law_1344 : List Nat := 42 :: sL_law_1345
def sL_law_1343 : List Nat := 43 :: sL_law_1344
def sL_law_1340 : List Nat := 167 :: 2 :: 214 :: sL_law_1343
def sL_law_1338 : List Nat := 54 :: 6 :: sL_law_1340
def sL_law_1335 : List Nat := 182 :: 0 :: 209 :: sL_law_1338
def sL_law_1334 : List Nat := 46 :: sL_law_1335
def sL_law_1333 : List Nat := 96 :: sL_law_1334
def sL_law_1332 : List Nat := 4 :: sL_law_1333
def sL_law_1330 : List Nat := 21 :: 4 :: sL_law_1332
def sL_law_1329 : List Nat := 42 :: sL_law_1330
def sL_law_1328 : List Nat := 44 :: sL_law_1329
def sL_law_1326 : List Nat := 54 :: 5 :: sL_law_1328
def sL_law_1323 : List Nat := 184 :: 0 :: 207 :: sL_law_1326
def sL_law_1322 : List Nat := 45 :: sL_law_1323
def sL_law_1321 : List Nat := 46 :: sL_law_1322
def sL_law_1320 : List Nat := 96 :: sL_law_1321
def sL_law_1319 : List Nat := 4 :: sL_law_1320
def sL_law_1317 : List Nat := 21 :: 4 :: sL_law_1319
def sL_law_1316 : List Nat := 42 :: sL_law_1317
def sL_law_1315 : List Nat := 43 :: sL_law_1316
def sL_law_1312 : List Nat := 167 :: 2 :: 242 :: sL_law_1315
def sL_law_1309 : List Nat := 182 :: 0 :: 206 :: sL_law_1312
def sL_law_1308 : List Nat := 46 :: sL_law_1309
def sL_law_1307 : List Nat := 96 :: sL_law_1308
def sL_law_1306 : List Nat := 7 :: sL_law_1307
def sL_law_1304 : List Nat := 21 :: 4 :: sL_law_1306
def sL_law_1303 : List Nat := 42 :: sL_law_1304
def sL_law_1302 : List Nat := 46 :: sL_law_1303
def sL_law_1301 : List Nat := 96 :: sL_law_1302
def sL_law_1300 : List Nat := 6 :: sL_law_1301
def sL_law_1298 : List Nat := 21 :: 4 :: sL_law_1300
def sL_law_1297 : List Nat := 42 :: sL_law_1298
def sL_law_1296 : List Nat := 46 :: sL_law_1297
def sL_law_1295 : List Nat := 96 :: sL_law_1296
def sL_law_1294 : List Nat := 5 :: sL_law_1295
def sL_law_1292 : List Nat := 21 :: 4 :: sL_law_1294
def sL_law_1291 : List Nat := 42 :: sL_law_1292
def sL_law_1290 : List Nat := 46 :: sL_law_1291
def sL_law_1289 : List Nat := 96 :: sL_law_1290
def sL_law_1288 : List Nat := 4 :: sL_law_1289
def sL_law_1286 : List Nat := 21 :: 4 :: sL_law_1288
def sL_law_1285 : List Nat := 42 :: sL_law_1286
def sL_law_1284 : List Nat := 44 :: sL_law_1285
def sL_law_1282 : List Nat := 54 :: 5 :: sL_law_1284
def sL_law_1279 : List Nat := 184 :: 0 :: 203 :: sL_law_1282
def sL_law_1278 : List Nat := 46 :: sL_law_1279
def sL_law_1277 : List Nat := 96 :: sL_law_1278
def sL_law_1276 : List Nat := 7 :: sL_law_1277
def sL_law_1274 : List Nat := 21 :: 4 :: sL_law_1276
def sL_law_1273 : List Nat := 42 :: sL_law_1274
def sL_law_1272 : List Nat := 46 :: sL_law_1273
def sL_law_1271 : List Nat := 96 :: sL_law_1272
def sL_law_1270 : List Nat := 6 :: sL_law_1271
def sL_law_1268 : List Nat := 21 :: 4 :: sL_law_1270
def sL_law_1267 : List Nat := 42 :: sL_law_1268
def sL_law_1266 : List Nat := 46 :: sL_law_1267
def sL_law_1265 : List Nat := 96 :: sL_law_1266
def sL_law_1264 : List Nat := 5 :: sL_law_1265
def sL_law_1262 : List Nat := 21 :: 4 :: sL_law_1264
def sL_law_1261 : List Nat := 42 :: sL_law_1262
def sL_law_1260 : List Nat := 46 :: sL_law_1261
def sL_law_1259 : List Nat := 96 :: sL_law_1260
def sL_law_1258 : List Nat := 4 :: sL_law_1259
def sL_law_1256 : List Nat := 21 :: 4 :: sL_law_1258
def sL_law_1255 : List Nat := 42 :: sL_law_1256
def sL_law_1254 : List Nat := 43 :: sL_law_1255
def sL_law_1251 : List Nat := 167 :: 3 :: 47 :: sL_law_1254
def sL_law_1249 : List Nat := 54 :: 6 :: sL_law_1251
def sL_law_1246 : List Nat := 182 :: 0 :: 202 :: sL_law_1249
def sL_law_1245 : List Nat := 46 :: sL_law_1246
def sL_law_1244 : List Nat := 96 :: sL_law_1245
def sL_law_1243 : List Nat := 5 :: sL_law_1244
def sL_law_1241 : List Nat := 21 :: 4 :: sL_law_1243
def sL_law_1240 : List Nat := 42 :: sL_law_1241
def sL_law_1239 : List Nat := 46 :: sL_law_1240
def sL_law_1238 : List Nat := 96 :: sL_law_1239
def sL_law_1237 : List Nat := 4 :: sL_law_1238
def sL_law_1235 : List Nat := 21 :: 4 :: sL_law_1237
def sL_law_1234 : List Nat := 42 :: sL_law_1235
def sL_law_1233 : List Nat := 44 :: sL_law_1234
def sL_law_1231 : List Nat := 54 :: 5 :: sL_law_1233
def sL_law_1228 : List Nat := 184 :: 0 :: 200 :: sL_law_1231
def sL_law_1227 : List Nat := 45 :: sL_law_1228
def sL_law_1226 : List Nat := 46 :: sL_law_1227
def sL_law_1225 : List Nat := 96 :: sL_law_1226
def sL_law_1224 : List Nat := 5 :: sL_law_1225
def sL_law_1222 : List Nat := 21 :: 4 :: sL_law_1224
def sL_law_1221 : List Nat := 42 :: sL_law_1222
def sL_law_1220 : List Nat := 46 :: sL_law_1221
def sL_law_1219 : List Nat := 96 :: sL_law_1220
def sL_law_1218 : List Nat := 4 :: sL_law_1219
def sL_law_1216 : List Nat := 21 :: 4 :: sL_law_1218
def sL_law_1215 : List Nat := 42 :: sL_law_1216
def sL_law_1214 : List Nat := 43 :: sL_law_1215
def sL_law_1211 : List Nat := 167 :: 3 :: 87 :: sL_law_1214
def sL_law_1209 : List Nat := 54 :: 6 :: sL_law_1211
def sL_law_1206 : List Nat := 182 :: 0 :: 199 :: sL_law_1209
def sL_law_1205 : List Nat := 46 :: sL_law_1206
def sL_law_1204 : List Nat := 96 :: sL_law_1205
def sL_law_1203 : List Nat := 6 :: sL_law_1204
def sL_law_1201 : List Nat := 21 :: 4 :: sL_law_1203
def sL_law_1200 : List Nat := 42 :: sL_law_1201
def sL_law_1199 : List Nat := 46 :: sL_law_1200
def sL_law_1198 : List Nat := 96 :: sL_law_1199
def sL_law_1197 : List Nat := 5 :: sL_law_1198
def sL_law_1195 : List Nat := 21 :: 4 :: sL_law_1197
def sL_law_1194 : List Nat := 42 :: sL_law_1195
def sL_law_1193 : List Nat := 46 :: sL_law_1194
def sL_law_1192 : List Nat := 96 :: sL_law_1193
def sL_law_1191 : List Nat := 4 :: sL_law_1192
def sL_law_1189 : List Nat := 21 :: 4 :: sL_law_1191
def sL_law_1188 : List Nat := 42 :: sL_law_1189
def sL_law_1187 : List Nat := 44 :: sL_law_1188
def sL_law_1185 : List Nat := 54 :: 5 :: sL_law_1187
def sL_law_1182 : List Nat := 184 :: 0 :: 197 :: sL_law_1185
def sL_law_1181 : List Nat := 45 :: sL_law_1182
def sL_law_1180 : List Nat := 46 :: sL_law_1181
def sL_law_1179 : List Nat := 96 :: sL_law_1180
def sL_law_1178 : List Nat := 6 :: sL_law_1179
def sL_law_1176 : List Nat := 21 :: 4 :: sL_law_1178
def sL_law_1175 : List Nat := 42 :: sL_law_1176
def sL_law_1174 : List Nat := 46 :: sL_law_1175
def sL_law_1173 : List Nat := 96 :: sL_law_1174
def sL_law_1172 : List Nat := 5 :: sL_law_1173
def sL_law_1170 : List Nat := 21 :: 4 :: sL_law_1172
def sL_law_1169 : List Nat := 42 :: sL_law_1170
def sL_law_1168 : List Nat := 46 :: sL_law_1169
def sL_law_1167 : List Nat := 96 :: sL_law_1168
def sL_law_1166 : List Nat := 4 :: sL_law_1167
def sL_law_1164 : List Nat := 21 :: 4 :: sL_law_1166
def sL_law_1163 : List Nat := 42 :: sL_law_1164
def sL_law_1162 : List Nat := 43 :: sL_law_1163
def sL_law_1159 : List Nat := 167 :: 3 :: 139 :: sL_law_1162
def sL_law_1157 : List Nat := 54 :: 6 :: sL_law_1159
def sL_law_1154 : List Nat := 182 :: 0 :: 196 :: sL_law_1157
def sL_law_1153 : List Nat := 46 :: sL_law_1154
def sL_law_1152 : List Nat := 96 :: sL_law_1153
def sL_law_1151 : List Nat := 7 :: sL_law_1152
def sL_law_1149 : List Nat := 21 :: 4 :: sL_law_1151
def sL_law_1148 : List Nat := 42 :: sL_law_1149
def sL_law_1147 : List Nat := 46 :: sL_law_1148
def sL_law_1146 : List Nat := 96 :: sL_law_1147
def sL_law_1145 : List Nat := 6 :: sL_law_1146
def sL_law_1143 : List Nat := 21 :: 4 :: sL_law_1145
def sL_law_1142 : List Nat := 42 :: sL_law_1143
def sL_law_1141 : List Nat := 46 :: sL_law_1142
def sL_law_1140 : List Nat := 96 :: sL_law_1141
def sL_law_1139 : List Nat := 5 :: sL_law_1140
def sL_law_1137 : List Nat := 21 :: 4 :: sL_law_1139
def sL_law_1136 : List Nat := 42 :: sL_law_1137
def sL_law_1135 : List Nat := 46 :: sL_law_1136
def sL_law_1134 : List Nat := 96 :: sL_law_1135
def sL_law_1133 : List Nat := 4 :: sL_law_1134
def sL_law_1131 : List Nat := 21 :: 4 :: sL_law_1133
def sL_law_1130 : List Nat := 42 :: sL_law_1131
def sL_law_1129 : List Nat := 44 :: sL_law_1130
def sL_law_1127 : List Nat := 54 :: 5 :: sL_law_1129
def sL_law_1124 : List Nat := 184 :: 0 :: 194 :: sL_law_1127
def sL_law_1123 : List Nat := 45 :: sL_law_1124
def sL_law_1122 : List Nat := 46 :: sL_law_1123
def sL_law_1121 : List Nat := 96 :: sL_law_1122
def sL_law_1120 : List Nat := 7 :: sL_law_1121
def sL_law_1118 : List Nat := 21 :: 4 :: sL_law_1120
def sL_law_1117 : List Nat := 42 :: sL_law_1118
def sL_law_1116 : List Nat := 46 :: sL_law_1117
def sL_law_1115 : List Nat := 96 :: sL_law_1116
def sL_law_1114 : List Nat := 6 :: sL_law_1115
def sL_law_1112 : List Nat := 21 :: 4 :: sL_law_1114
def sL_law_1111 : List Nat := 42 :: sL_law_1112
def sL_law_1110 : List Nat := 46 :: sL_law_1111
def sL_law_1109 : List Nat := 96 :: sL_law_1110
def sL_law_1108 : List Nat := 5 :: sL_law_1109
def sL_law_1106 : List Nat := 21 :: 4 :: sL_law_1108
def sL_law_1105 : List Nat := 42 :: sL_law_1106
def sL_law_1104 : List Nat := 46 :: sL_law_1105
def sL_law_1103 : List Nat := 96 :: sL_law_1104
def sL_law_1102 : List Nat := 4 :: sL_law_1103
def sL_law_1100 : List Nat := 21 :: 4 :: sL_law_1102
def sL_law_1099 : List Nat := 42 :: sL_law_1100
def sL_law_1098 : List Nat := 43 :: sL_law_1099
def sL_law_1095 : List Nat := 167 :: 3 :: 203 :: sL_law_1098
def sL_law_1093 : List Nat := 54 :: 6 :: sL_law_1095
def sL_law_1090 : List Nat := 182 :: 0 :: 193 :: sL_law_1093
def sL_law_1089 : List Nat := 46 :: sL_law_1090
def sL_law_1088 : List Nat := 96 :: sL_law_1089
def sL_law_1087 : List Nat := 7 :: sL_law_1088
def sL_law_1085 : List Nat := 21 :: 4 :: sL_law_1087
def sL_law_1084 : List Nat := 42 :: sL_law_1085
def sL_law_1083 : List Nat := 46 :: sL_law_1084
def sL_law_1082 : List Nat := 96 :: sL_law_1083
def sL_law_1081 : List Nat := 6 :: sL_law_1082
def sL_law_1079 : List Nat := 21 :: 4 :: sL_law_1081
def sL_law_1078 : List Nat := 42 :: sL_law_1079
def sL_law_1077 : List Nat := 46 :: sL_law_1078
def sL_law_1076 : List Nat := 96 :: sL_law_1077
def sL_law_1075 : List Nat := 5 :: sL_law_1076
def sL_law_1073 : List Nat := 21 :: 4 :: sL_law_1075
def sL_law_1072 : List Nat := 42 :: sL_law_1073
def sL_law_1071 : List Nat := 46 :: sL_law_1072
def sL_law_1070 : List Nat := 96 :: sL_law_1071
def sL_law_1069 : List Nat := 4 :: sL_law_1070
def sL_law_1067 : List Nat := 21 :: 4 :: sL_law_1069
def sL_law_1066 : List Nat := 42 :: sL_law_1067
def sL_law_1065 : List Nat := 44 :: sL_law_1066
def sL_law_1063 : List Nat := 54 :: 5 :: sL_law_1065
def sL_law_1060 : List Nat := 184 :: 0 :: 191 :: sL_law_1063
def sL_law_1059 : List Nat := 45 :: sL_law_1060
def sL_law_1058 : List Nat := 46 :: sL_law_1059
def sL_law_1057 : List Nat := 96 :: sL_law_1058
def sL_law_1056 : List Nat := 7 :: sL_law_1057
def sL_law_1054 : List Nat := 21 :: 4 :: sL_law_1056
def sL_law_1053 : List Nat := 42 :: sL_law_1054
def sL_law_1052 : List Nat := 46 :: sL_law_1053
def sL_law_1051 : List Nat := 96 :: sL_law_1052
def sL_law_1050 : List Nat := 6 :: sL_law_1051
def sL_law_1048 : List Nat := 21 :: 4 :: sL_law_1050
def sL_law_1047 : List Nat := 42 :: sL_law_1048
def sL_law_1046 : List Nat := 46 :: sL_law_1047
def sL_law_1045 : List Nat := 96 :: sL_law_1046
def sL_law_1044 : List Nat := 5 :: sL_law_1045
def sL_law_1042 : List Nat := 21 :: 4 :: sL_law_1044
def sL_law_1041 : List Nat := 42 :: sL_law_1042
def sL_law_1040 : List Nat := 46 :: sL_law_1041
def sL_law_1039 : List Nat := 96 :: sL_law_1040
def sL_law_1038 : List Nat := 4 :: sL_law_1039
def sL_law_1036 : List Nat := 21 :: 4 :: sL_law_1038
def sL_law_1035 : List Nat := 42 :: sL_law_1036
def sL_law_1034 : List Nat := 43 :: sL_law_1035
def sL_law_1031 : List Nat := 167 :: 4 :: 11 :: sL_law_1034
def sL_law_1029 : List Nat := 54 :: 6 :: sL_law_1031
def sL_law_1026 : List Nat := 182 :: 0 :: 190 :: sL_law_1029
def sL_law_1025 : List Nat := 46 :: sL_law_1026
def sL_law_1024 : List Nat := 96 :: sL_law_1025
def sL_law_1023 : List Nat := 6 :: sL_law_1024
def sL_law_1021 : List Nat := 21 :: 4 :: sL_law_1023
def sL_law_1020 : List Nat := 42 :: sL_law_1021
def sL_law_1019 : List Nat := 46 :: sL_law_1020
def sL_law_1018 : List Nat := 96 :: sL_law_1019
def sL_law_1017 : List Nat := 5 :: sL_law_1018
def sL_law_1015 : List Nat := 21 :: 4 :: sL_law_1017
def sL_law_1014 : List Nat := 42 :: sL_law_1015
def sL_law_1013 : List Nat := 46 :: sL_law_1014
def sL_law_1012 : List Nat := 96 :: sL_law_1013
def sL_law_1011 : List Nat := 4 :: sL_law_1012
def sL_law_1009 : List Nat := 21 :: 4 :: sL_law_1011
def sL_law_1008 : List Nat := 42 :: sL_law_1009
def sL_law_1007 : List Nat := 44 :: sL_law_1008
def sL_law_1005 : List Nat := 54 :: 5 :: sL_law_1007
def sL_law_1002 : List Nat := 184 :: 0 :: 188 :: sL_law_1005
def sL_law_1001 : List Nat := 45 :: sL_law_1002
def sL_law_1000 : List Nat := 46 :: sL_law_1001
def sL_law_999 : List Nat := 96 :: sL_law_1000
def sL_law_998 : List Nat := 6 :: sL_law_999
def sL_law_996 : List Nat := 21 :: 4 :: sL_law_998
def sL_law_995 : List Nat := 42 :: sL_law_996
def sL_law_994 : List Nat := 46 :: sL_law_995
def sL_law_993 : List Nat := 96 :: sL_law_994
def sL_law_992 : List Nat := 5 :: sL_law_993
def sL_law_990 : List Nat := 21 :: 4 :: sL_law_992
def sL_law_989 : List Nat := 42 :: sL_law_990
def sL_law_988 : List Nat := 46 :: sL_law_989
def sL_law_987 : List Nat := 96 :: sL_law_988
def sL_law_986 : List Nat := 4 :: sL_law_987
def sL_law_984 : List Nat := 21 :: 4 :: sL_law_986
def sL_law_983 : List Nat := 42 :: sL_law_984
def sL_law_982 : List Nat := 43 :: sL_law_983
def sL_law_979 : List Nat := 167 :: 4 :: 63 :: sL_law_982
def sL_law_977 : List Nat := 54 :: 6 :: sL_law_979
def sL_law_974 : List Nat := 182 :: 0 :: 187 :: sL_law_977
def sL_law_973 : List Nat := 46 :: sL_law_974
def sL_law_972 : List Nat := 96 :: sL_law_973
def sL_law_971 : List Nat := 5 :: sL_law_972
def sL_law_969 : List Nat := 21 :: 4 :: sL_law_971
def sL_law_968 : List Nat := 42 :: sL_law_969
def sL_law_967 : List Nat := 46 :: sL_law_968
def sL_law_966 : List Nat := 96 :: sL_law_967
def sL_law_965 : List Nat := 4 :: sL_law_966
def sL_law_963 : List Nat := 21 :: 4 :: sL_law_965
def sL_law_962 : List Nat := 42 :: sL_law_963
def sL_law_961 : List Nat := 44 :: sL_law_962
def sL_law_959 : List Nat := 54 :: 5 :: sL_law_961
def sL_law_956 : List Nat := 184 :: 0 :: 185 :: sL_law_959
def sL_law_955 : List Nat := 45 :: sL_law_956
def sL_law_954 : List Nat := 46 :: sL_law_955
def sL_law_953 : List Nat := 96 :: sL_law_954
def sL_law_952 : List Nat := 5 :: sL_law_953
def sL_law_950 : List Nat := 21 :: 4 :: sL_law_952
def sL_law_949 : List Nat := 42 :: sL_law_950
def sL_law_948 : List Nat := 46 :: sL_law_949
def sL_law_947 : List Nat := 96 :: sL_law_948
def sL_law_946 : List Nat := 4 :: sL_law_947
def sL_law_944 : List Nat := 21 :: 4 :: sL_law_946
def sL_law_943 : List Nat := 42 :: sL_law_944
def sL_law_942 : List Nat := 43 :: sL_law_943
def sL_law_939 : List Nat := 167 :: 4 :: 103 :: sL_law_942
def sL_law_937 : List Nat := 54 :: 6 :: sL_law_939
def sL_law_934 : List Nat := 182 :: 0 :: 184 :: sL_law_937
def sL_law_933 : List Nat := 46 :: sL_law_934
def sL_law_932 : List Nat := 96 :: sL_law_933
def sL_law_931 : List Nat := 6 :: sL_law_932
def sL_law_929 : List Nat := 21 :: 4 :: sL_law_931
def sL_law_928 : List Nat := 42 :: sL_law_929
def sL_law_927 : List Nat := 46 :: sL_law_928
def sL_law_926 : List Nat := 96 :: sL_law_927
def sL_law_925 : List Nat := 5 :: sL_law_926
def sL_law_923 : List Nat := 21 :: 4 :: sL_law_925
def sL_law_922 : List Nat := 42 :: sL_law_923
def sL_law_921 : List Nat := 46 :: sL_law_922
def sL_law_920 : List Nat := 96 :: sL_law_921
def sL_law_919 : List Nat := 4 :: sL_law_920
def sL_law_917 : List Nat := 21 :: 4 :: sL_law_919
def sL_law_916 : List Nat := 42 :: sL_law_917
def sL_law_915 : List Nat := 44 :: sL_law_916
def sL_law_913 : List Nat := 54 :: 5 :: sL_law_915
def sL_law_910 : List Nat := 184 :: 0 :: 182 :: sL_law_913
def sL_law_909 : List Nat := 45 :: sL_law_910
def sL_law_908 : List Nat := 46 :: sL_law_909
def sL_law_907 : List Nat := 96 :: sL_law_908
def sL_law_906 : List Nat := 6 :: sL_law_907
def sL_law_904 : List Nat := 21 :: 4 :: sL_law_906
def sL_law_903 : List Nat := 42 :: sL_law_904
def sL_law_902 : List Nat := 46 :: sL_law_903
def sL_law_901 : List Nat := 96 :: sL_law_902
def sL_law_900 : List Nat := 5 :: sL_law_901
def sL_law_898 : List Nat := 21 :: 4 :: sL_law_900
def sL_law_897 : List Nat := 42 :: sL_law_898
def sL_law_896 : List Nat := 46 :: sL_law_897
def sL_law_895 : List Nat := 96 :: sL_law_896
def sL_law_894 : List Nat := 4 :: sL_law_895
def sL_law_892 : List Nat := 21 :: 4 :: sL_law_894
def sL_law_891 : List Nat := 42 :: sL_law_892
def sL_law_890 : List Nat := 43 :: sL_law_891
def sL_law_887 : List Nat := 167 :: 4 :: 155 :: sL_law_890
def sL_law_885 : List Nat := 54 :: 6 :: sL_law_887
def sL_law_882 : List Nat := 182 :: 0 :: 181 :: sL_law_885
def sL_law_881 : List Nat := 46 :: sL_law_882
def sL_law_880 : List Nat := 96 :: sL_law_881
def sL_law_879 : List Nat := 5 :: sL_law_880
def sL_law_877 : List Nat := 21 :: 4 :: sL_law_879
def sL_law_876 : List Nat := 42 :: sL_law_877
def sL_law_875 : List Nat := 46 :: sL_law_876
def sL_law_874 : List Nat := 96 :: sL_law_875
def sL_law_873 : List Nat := 4 :: sL_law_874
def sL_law_871 : List Nat := 21 :: 4 :: sL_law_873
def sL_law_870 : List Nat := 42 :: sL_law_871
def sL_law_869 : List Nat := 44 :: sL_law_870
def sL_law_867 : List Nat := 54 :: 5 :: sL_law_869
def sL_law_864 : List Nat := 184 :: 0 :: 178 :: sL_law_867
def sL_law_863 : List Nat := 45 :: sL_law_864
def sL_law_862 : List Nat := 46 :: sL_law_863
def sL_law_861 : List Nat := 96 :: sL_law_862
def sL_law_860 : List Nat := 5 :: sL_law_861
def sL_law_858 : List Nat := 21 :: 4 :: sL_law_860
def sL_law_857 : List Nat := 42 :: sL_law_858
def sL_law_856 : List Nat := 46 :: sL_law_857
def sL_law_855 : List Nat := 96 :: sL_law_856
def sL_law_854 : List Nat := 4 :: sL_law_855
def sL_law_852 : List Nat := 21 :: 4 :: sL_law_854
def sL_law_851 : List Nat := 42 :: sL_law_852
def sL_law_850 : List Nat := 43 :: sL_law_851
def sL_law_847 : List Nat := 167 :: 4 :: 195 :: sL_law_850
def sL_law_845 : List Nat := 54 :: 6 :: sL_law_847
def sL_law_842 : List Nat := 182 :: 0 :: 177 :: sL_law_845
def sL_law_841 : List Nat := 46 :: sL_law_842
def sL_law_840 : List Nat := 96 :: sL_law_841
def sL_law_839 : List Nat := 7 :: sL_law_840
def sL_law_837 : List Nat := 21 :: 4 :: sL_law_839
def sL_law_836 : List Nat := 42 :: sL_law_837
def sL_law_835 : List Nat := 46 :: sL_law_836
def sL_law_834 : List Nat := 96 :: sL_law_835
def sL_law_833 : List Nat := 6 :: sL_law_834
def sL_law_831 : List Nat := 21 :: 4 :: sL_law_833
def sL_law_830 : List Nat := 42 :: sL_law_831
def sL_law_829 : List Nat := 46 :: sL_law_830
def sL_law_828 : List Nat := 96 :: sL_law_829
def sL_law_827 : List Nat := 5 :: sL_law_828
def sL_law_825 : List Nat := 21 :: 4 :: sL_law_827
def sL_law_824 : List Nat := 42 :: sL_law_825
def sL_law_823 : List Nat := 46 :: sL_law_824
def sL_law_822 : List Nat := 96 :: sL_law_823
def sL_law_821 : List Nat := 4 :: sL_law_822
def sL_law_819 : List Nat := 21 :: 4 :: sL_law_821
def sL_law_818 : List Nat := 42 :: sL_law_819
def sL_law_817 : List Nat := 44 :: sL_law_818
def sL_law_815 : List Nat := 54 :: 5 :: sL_law_817
def sL_law_812 : List Nat := 184 :: 0 :: 175 :: sL_law_815
def sL_law_811 : List Nat := 45 :: sL_law_812
def sL_law_810 : List Nat := 46 :: sL_law_811
def sL_law_809 : List Nat := 96 :: sL_law_810
def sL_law_808 : List Nat := 7 :: sL_law_809
def sL_law_806 : List Nat := 21 :: 4 :: sL_law_808
def sL_law_805 : List Nat := 42 :: sL_law_806
def sL_law_804 : List Nat := 46 :: sL_law_805
def sL_law_803 : List Nat := 96 :: sL_law_804
def sL_law_802 : List Nat := 6 :: sL_law_803
def sL_law_800 : List Nat := 21 :: 4 :: sL_law_802
def sL_law_799 : List Nat := 42 :: sL_law_800
def sL_law_798 : List Nat := 46 :: sL_law_799
def sL_law_797 : List Nat := 96 :: sL_law_798
def sL_law_796 : List Nat := 5 :: sL_law_797
def sL_law_794 : List Nat := 21 :: 4 :: sL_law_796
def sL_law_793 : List Nat := 42 :: sL_law_794
def sL_law_792 : List Nat := 46 :: sL_law_793
def sL_law_791 : List Nat := 96 :: sL_law_792
def sL_law_790 : List Nat := 4 :: sL_law_791
def sL_law_788 : List Nat := 21 :: 4 :: sL_law_790
def sL_law_787 : List Nat := 42 :: sL_law_788
def sL_law_786 : List Nat := 43 :: sL_law_787
def sL_law_783 : List Nat := 167 :: 5 :: 3 :: sL_law_786
def sL_law_781 : List Nat := 54 :: 6 :: sL_law_783
def sL_law_778 : List Nat := 182 :: 0 :: 174 :: sL_law_781
def sL_law_777 : List Nat := 46 :: sL_law_778
def sL_law_776 : List Nat := 96 :: sL_law_777
def sL_law_775 : List Nat := 8 :: sL_law_776
def sL_law_773 : List Nat := 21 :: 4 :: sL_law_775
def sL_law_772 : List Nat := 42 :: sL_law_773
def sL_law_771 : List Nat := 46 :: sL_law_772
def sL_law_770 : List Nat := 96 :: sL_law_771
def sL_law_769 : List Nat := 7 :: sL_law_770
def sL_law_767 : List Nat := 21 :: 4 :: sL_law_769
def sL_law_766 : List Nat := 42 :: sL_law_767
def sL_law_765 : List Nat := 46 :: sL_law_766
def sL_law_764 : List Nat := 96 :: sL_law_765
def sL_law_763 : List Nat := 6 :: sL_law_764
def sL_law_761 : List Nat := 21 :: 4 :: sL_law_763
def sL_law_760 : List Nat := 42 :: sL_law_761
def sL_law_759 : List Nat := 46 :: sL_law_760
def sL_law_758 : List Nat := 96 :: sL_law_759
def sL_law_757 : List Nat := 5 :: sL_law_758
def sL_law_755 : List Nat := 21 :: 4 :: sL_law_757
def sL_law_754 : List Nat := 42 :: sL_law_755
def sL_law_753 : List Nat := 46 :: sL_law_754
def sL_law_752 : List Nat := 96 :: sL_law_753
def sL_law_751 : List Nat := 4 :: sL_law_752
def sL_law_749 : List Nat := 21 :: 4 :: sL_law_751
def sL_law_748 : List Nat := 42 :: sL_law_749
def sL_law_747 : List Nat := 44 :: sL_law_748
def sL_law_745 : List Nat := 54 :: 5 :: sL_law_747
def sL_law_742 : List Nat := 184 :: 0 :: 172 :: sL_law_745
def sL_law_741 : List Nat := 45 :: sL_law_742
def sL_law_740 : List Nat := 46 :: sL_law_741
def sL_law_739 : List Nat := 96 :: sL_law_740
def sL_law_738 : List Nat := 8 :: sL_law_739
def sL_law_736 : List Nat := 21 :: 4 :: sL_law_738
def sL_law_735 : List Nat := 42 :: sL_law_736
def sL_law_734 : List Nat := 46 :: sL_law_735
def sL_law_733 : List Nat := 96 :: sL_law_734
def sL_law_732 : List Nat := 7 :: sL_law_733
def sL_law_730 : List Nat := 21 :: 4 :: sL_law_732
def sL_law_729 : List Nat := 42 :: sL_law_730
def sL_law_728 : List Nat := 46 :: sL_law_729
def sL_law_727 : List Nat := 96 :: sL_law_728
def sL_law_726 : List Nat := 6 :: sL_law_727
def sL_law_724 : List Nat := 21 :: 4 :: sL_law_726
def sL_law_723 : List Nat := 42 :: sL_law_724
def sL_law_722 : List Nat := 46 :: sL_law_723
def sL_law_721 : List Nat := 96 :: sL_law_722
def sL_law_720 : List Nat := 5 :: sL_law_721
def sL_law_718 : List Nat := 21 :: 4 :: sL_law_720
def sL_law_717 : List Nat := 42 :: sL_law_718
def sL_law_716 : List Nat := 46 :: sL_law_717
def sL_law_715 : List Nat := 96 :: sL_law_716
def sL_law_714 : List Nat := 4 :: sL_law_715
def sL_law_712 : List Nat := 21 :: 4 :: sL_law_714
def sL_law_711 : List Nat := 42 :: sL_law_712
def sL_law_710 : List Nat := 43 :: sL_law_711
def sL_law_707 : List Nat := 167 :: 5 :: 79 :: sL_law_710
def sL_law_705 : List Nat := 54 :: 6 :: sL_law_707
def sL_law_702 : List Nat := 182 :: 0 :: 171 :: sL_law_705
def sL_law_701 : List Nat := 46 :: sL_law_702
def sL_law_700 : List Nat := 96 :: sL_law_701
def sL_law_699 : List Nat := 4 :: sL_law_700
def sL_law_697 : List Nat := 21 :: 4 :: sL_law_699
def sL_law_696 : List Nat := 42 :: sL_law_697
def sL_law_695 : List Nat := 44 :: sL_law_696
def sL_law_693 : List Nat := 54 :: 5 :: sL_law_695
def sL_law_690 : List Nat := 184 :: 0 :: 169 :: sL_law_693
def sL_law_689 : List Nat := 45 :: sL_law_690
def sL_law_688 : List Nat := 46 :: sL_law_689
def sL_law_687 : List Nat := 96 :: sL_law_688
def sL_law_686 : List Nat := 4 :: sL_law_687
def sL_law_684 : List Nat := 21 :: 4 :: sL_law_686
def sL_law_683 : List Nat := 42 :: sL_law_684
def sL_law_682 : List Nat := 43 :: sL_law_683
def sL_law_679 : List Nat := 167 :: 5 :: 107 :: sL_law_682
def sL_law_677 : List Nat := 54 :: 6 :: sL_law_679
def sL_law_674 : List Nat := 182 :: 0 :: 168 :: sL_law_677
def sL_law_673 : List Nat := 46 :: sL_law_674
def sL_law_672 : List Nat := 96 :: sL_law_673
def sL_law_671 : List Nat := 8 :: sL_law_672
def sL_law_669 : List Nat := 21 :: 4 :: sL_law_671
def sL_law_668 : List Nat := 42 :: sL_law_669
def sL_law_667 : List Nat := 46 :: sL_law_668
def sL_law_666 : List Nat := 96 :: sL_law_667
def sL_law_665 : List Nat := 7 :: sL_law_666
def sL_law_663 : List Nat := 21 :: 4 :: sL_law_665
def sL_law_662 : List Nat := 42 :: sL_law_663
def sL_law_661 : List Nat := 46 :: sL_law_662
def sL_law_660 : List Nat := 96 :: sL_law_661
def sL_law_659 : List Nat := 6 :: sL_law_660
def sL_law_657 : List Nat := 21 :: 4 :: sL_law_659
def sL_law_656 : List Nat := 42 :: sL_law_657
def sL_law_655 : List Nat := 46 :: sL_law_656
def sL_law_654 : List Nat := 96 :: sL_law_655
def sL_law_653 : List Nat := 5 :: sL_law_654
def sL_law_651 : List Nat := 21 :: 4 :: sL_law_653
def sL_law_650 : List Nat := 42 :: sL_law_651
def sL_law_649 : List Nat := 46 :: sL_law_650
def sL_law_648 : List Nat := 96 :: sL_law_649
def sL_law_647 : List Nat := 4 :: sL_law_648
def sL_law_645 : List Nat := 21 :: 4 :: sL_law_647
def sL_law_644 : List Nat := 42 :: sL_law_645
def sL_law_643 : List Nat := 44 :: sL_law_644
def sL_law_641 : List Nat := 54 :: 5 :: sL_law_643
def sL_law_638 : List Nat := 184 :: 0 :: 165 :: sL_law_641
def sL_law_637 : List Nat := 45 :: sL_law_638
def sL_law_636 : List Nat := 46 :: sL_law_637
def sL_law_635 : List Nat := 96 :: sL_law_636
def sL_law_634 : List Nat := 8 :: sL_law_635
def sL_law_632 : List Nat := 21 :: 4 :: sL_law_634
def sL_law_631 : List Nat := 42 :: sL_law_632
def sL_law_630 : List Nat := 46 :: sL_law_631
def sL_law_629 : List Nat := 96 :: sL_law_630
def sL_law_628 : List Nat := 7 :: sL_law_629
def sL_law_626 : List Nat := 21 :: 4 :: sL_law_628
def sL_law_625 : List Nat := 42 :: sL_law_626
def sL_law_624 : List Nat := 46 :: sL_law_625
def sL_law_623 : List Nat := 96 :: sL_law_624
def sL_law_622 : List Nat := 6 :: sL_law_623
def sL_law_620 : List Nat := 21 :: 4 :: sL_law_622
def sL_law_619 : List Nat := 42 :: sL_law_620
def sL_law_618 : List Nat := 46 :: sL_law_619
def sL_law_617 : List Nat := 96 :: sL_law_618
def sL_law_616 : List Nat := 5 :: sL_law_617
def sL_law_614 : List Nat := 21 :: 4 :: sL_law_616
def sL_law_613 : List Nat := 42 :: sL_law_614
def sL_law_612 : List Nat := 46 :: sL_law_613
def sL_law_611 : List Nat := 96 :: sL_law_612
def sL_law_610 : List Nat := 4 :: sL_law_611
def sL_law_608 : List Nat := 21 :: 4 :: sL_law_610
def sL_law_607 : List Nat := 42 :: sL_law_608
def sL_law_606 : List Nat := 43 :: sL_law_607
def sL_law_603 : List Nat := 167 :: 5 :: 183 :: sL_law_606
def sL_law_601 : List Nat := 54 :: 6 :: sL_law_603
def sL_law_598 : List Nat := 182 :: 0 :: 164 :: sL_law_601
def sL_law_597 : List Nat := 46 :: sL_law_598
def sL_law_596 : List Nat := 96 :: sL_law_597
def sL_law_595 : List Nat := 7 :: sL_law_596
def sL_law_593 : List Nat := 21 :: 4 :: sL_law_595
def sL_law_592 : List Nat := 42 :: sL_law_593
def sL_law_591 : List Nat := 46 :: sL_law_592
def sL_law_590 : List Nat := 96 :: sL_law_591
def sL_law_589 : List Nat := 6 :: sL_law_590
def sL_law_587 : List Nat := 21 :: 4 :: sL_law_589
def sL_law_586 : List Nat := 42 :: sL_law_587
def sL_law_585 : List Nat := 46 :: sL_law_586
def sL_law_584 : List Nat := 96 :: sL_law_585
def sL_law_583 : List Nat := 5 :: sL_law_584
def sL_law_581 : List Nat := 21 :: 4 :: sL_law_583
def sL_law_580 : List Nat := 42 :: sL_law_581
def sL_law_579 : List Nat := 46 :: sL_law_580
def sL_law_578 : List Nat := 96 :: sL_law_579
def sL_law_577 : List Nat := 4 :: sL_law_578
def sL_law_575 : List Nat := 21 :: 4 :: sL_law_577
def sL_law_574 : List Nat := 42 :: sL_law_575
def sL_law_573 : List Nat := 44 :: sL_law_574
def sL_law_571 : List Nat := 54 :: 5 :: sL_law_573
def sL_law_568 : List Nat := 184 :: 0 :: 161 :: sL_law_571
def sL_law_567 : List Nat := 45 :: sL_law_568
def sL_law_566 : List Nat := 46 :: sL_law_567
def sL_law_565 : List Nat := 96 :: sL_law_566
def sL_law_564 : List Nat := 7 :: sL_law_565
def sL_law_562 : List Nat := 21 :: 4 :: sL_law_564
def sL_law_561 : List Nat := 42 :: sL_law_562
def sL_law_560 : List Nat := 46 :: sL_law_561
def sL_law_559 : List Nat := 96 :: sL_law_560
def sL_law_558 : List Nat := 6 :: sL_law_559
def sL_law_556 : List Nat := 21 :: 4 :: sL_law_558
def sL_law_555 : List Nat := 42 :: sL_law_556
def sL_law_554 : List Nat := 46 :: sL_law_555
def sL_law_553 : List Nat := 96 :: sL_law_554
def sL_law_552 : List Nat := 5 :: sL_law_553
def sL_law_550 : List Nat := 21 :: 4 :: sL_law_552
def sL_law_549 : List Nat := 42 :: sL_law_550
def sL_law_548 : List Nat := 46 :: sL_law_549
def sL_law_547 : List Nat := 96 :: sL_law_548
def sL_law_546 : List Nat := 4 :: sL_law_547
def sL_law_544 : List Nat := 21 :: 4 :: sL_law_546
def sL_law_543 : List Nat := 42 :: sL_law_544
def sL_law_542 : List Nat := 43 :: sL_law_543
def sL_law_539 : List Nat := 167 :: 5 :: 247 :: sL_law_542
def sL_law_538 : List Nat := 172 :: sL_law_539
def sL_law_537 : List Nat := 3 :: sL_law_538
def sL_law_534 : List Nat := 153 :: 0 :: 5 :: sL_law_537
def sL_law_533 : List Nat := 148 :: sL_law_534
def sL_law_532 : List Nat := 133 :: sL_law_533
def sL_law_530 : List Nat := 21 :: 6 :: sL_law_532
def sL_law_529 : List Nat := 47 :: sL_law_530
def sL_law_528 : List Nat := 3 :: sL_law_529
def sL_law_527 : List Nat := 45 :: sL_law_528
def sL_law_524 : List Nat := 154 :: 0 :: 15 :: sL_law_527
def sL_law_522 : List Nat := 21 :: 5 :: sL_law_524
def sL_law_521 : List Nat := 172 :: sL_law_522
def sL_law_520 : List Nat := 3 :: sL_law_521
def sL_law_517 : List Nat := 159 :: 0 :: 5 :: sL_law_520
def sL_law_515 : List Nat := 21 :: 5 :: sL_law_517
def sL_law_512 : List Nat := 182 :: 0 :: 158 :: sL_law_515
def sL_law_511 : List Nat := 44 :: sL_law_512
def sL_law_509 : List Nat := 54 :: 6 :: sL_law_511
def sL_law_506 : List Nat := 182 :: 0 :: 157 :: sL_law_509
def sL_law_505 : List Nat := 46 :: sL_law_506
def sL_law_504 : List Nat := 96 :: sL_law_505
def sL_law_503 : List Nat := 6 :: sL_law_504
def sL_law_501 : List Nat := 21 :: 4 :: sL_law_503
def sL_law_500 : List Nat := 42 :: sL_law_501
def sL_law_499 : List Nat := 46 :: sL_law_500
def sL_law_498 : List Nat := 96 :: sL_law_499
def sL_law_497 : List Nat := 5 :: sL_law_498
def sL_law_495 : List Nat := 21 :: 4 :: sL_law_497
def sL_law_494 : List Nat := 42 :: sL_law_495
def sL_law_493 : List Nat := 46 :: sL_law_494
def sL_law_492 : List Nat := 96 :: sL_law_493
def sL_law_491 : List Nat := 4 :: sL_law_492
def sL_law_489 : List Nat := 21 :: 4 :: sL_law_491
def sL_law_488 : List Nat := 42 :: sL_law_489
def sL_law_487 : List Nat := 44 :: sL_law_488
def sL_law_485 : List Nat := 54 :: 5 :: sL_law_487
def sL_law_482 : List Nat := 184 :: 0 :: 155 :: sL_law_485
def sL_law_481 : List Nat := 45 :: sL_law_482
def sL_law_480 : List Nat := 46 :: sL_law_481
def sL_law_479 : List Nat := 96 :: sL_law_480
def sL_law_478 : List Nat := 6 :: sL_law_479
def sL_law_476 : List Nat := 21 :: 4 :: sL_law_478
def sL_law_475 : List Nat := 42 :: sL_law_476
def sL_law_474 : List Nat := 46 :: sL_law_475
def sL_law_473 : List Nat := 96 :: sL_law_474
def sL_law_472 : List Nat := 5 :: sL_law_473
def sL_law_470 : List Nat := 21 :: 4 :: sL_law_472
def sL_law_469 : List Nat := 42 :: sL_law_470
def sL_law_468 : List Nat := 46 :: sL_law_469
def sL_law_467 : List Nat := 96 :: sL_law_468
def sL_law_466 : List Nat := 4 :: sL_law_467
def sL_law_464 : List Nat := 21 :: 4 :: sL_law_466
def sL_law_463 : List Nat := 42 :: sL_law_464
def sL_law_462 : List Nat := 43 :: sL_law_463
def sL_law_459 : List Nat := 167 :: 6 :: 71 :: sL_law_462
def sL_law_457 : List Nat := 54 :: 6 :: sL_law_459
def sL_law_454 : List Nat := 182 :: 0 :: 154 :: sL_law_457
def sL_law_453 : List Nat := 46 :: sL_law_454
def sL_law_452 : List Nat := 96 :: sL_law_453
def sL_law_451 : List Nat := 6 :: sL_law_452
def sL_law_449 : List Nat := 21 :: 4 :: sL_law_451
def sL_law_448 : List Nat := 42 :: sL_law_449
def sL_law_447 : List Nat := 46 :: sL_law_448
def sL_law_446 : List Nat := 96 :: sL_law_447
def sL_law_445 : List Nat := 5 :: sL_law_446
def sL_law_443 : List Nat := 21 :: 4 :: sL_law_445
def sL_law_442 : List Nat := 42 :: sL_law_443
def sL_law_441 : List Nat := 46 :: sL_law_442
def sL_law_440 : List Nat := 96 :: sL_law_441
def sL_law_439 : List Nat := 4 :: sL_law_440
def sL_law_437 : List Nat := 21 :: 4 :: sL_law_439
def sL_law_436 : List Nat := 42 :: sL_law_437
def sL_law_435 : List Nat := 44 :: sL_law_436
def sL_law_433 : List Nat := 54 :: 5 :: sL_law_435
def sL_law_430 : List Nat := 184 :: 0 :: 152 :: sL_law_433
def sL_law_429 : List Nat := 45 :: sL_law_430
def sL_law_428 : List Nat := 46 :: sL_law_429
def sL_law_427 : List Nat := 96 :: sL_law_428
def sL_law_426 : List Nat := 6 :: sL_law_427
def sL_law_424 : List Nat := 21 :: 4 :: sL_law_426
def sL_law_423 : List Nat := 42 :: sL_law_424
def sL_law_422 : List Nat := 46 :: sL_law_423
def sL_law_421 : List Nat := 96 :: sL_law_422
def sL_law_420 : List Nat := 5 :: sL_law_421
def sL_law_418 : List Nat := 21 :: 4 :: sL_law_420
def sL_law_417 : List Nat := 42 :: sL_law_418
def sL_law_416 : List Nat := 46 :: sL_law_417
def sL_law_415 : List Nat := 96 :: sL_law_416
def sL_law_414 : List Nat := 4 :: sL_law_415
def sL_law_412 : List Nat := 21 :: 4 :: sL_law_414
def sL_law_411 : List Nat := 42 :: sL_law_412
def sL_law_410 : List Nat := 43 :: sL_law_411
def sL_law_407 : List Nat := 167 :: 6 :: 123 :: sL_law_410
def sL_law_405 : List Nat := 54 :: 6 :: sL_law_407
def sL_law_402 : List Nat := 182 :: 0 :: 151 :: sL_law_405
def sL_law_401 : List Nat := 46 :: sL_law_402
def sL_law_400 : List Nat := 96 :: sL_law_401
def sL_law_399 : List Nat := 4 :: sL_law_400
def sL_law_397 : List Nat := 21 :: 4 :: sL_law_399
def sL_law_396 : List Nat := 42 :: sL_law_397
def sL_law_395 : List Nat := 44 :: sL_law_396
def sL_law_393 : List Nat := 54 :: 5 :: sL_law_395
def sL_law_390 : List Nat := 184 :: 0 :: 149 :: sL_law_393
def sL_law_389 : List Nat := 45 :: sL_law_390
def sL_law_388 : List Nat := 46 :: sL_law_389
def sL_law_387 : List Nat := 96 :: sL_law_388
def sL_law_386 : List Nat := 4 :: sL_law_387
def sL_law_384 : List Nat := 21 :: 4 :: sL_law_386
def sL_law_383 : List Nat := 42 :: sL_law_384
def sL_law_382 : List Nat := 43 :: sL_law_383
def sL_law_379 : List Nat := 167 :: 6 :: 151 :: sL_law_382
def sL_law_378 : List Nat := 87 :: sL_law_379
def sL_law_375 : List Nat := 182 :: 0 :: 148 :: sL_law_378
def sL_law_374 : List Nat := 44 :: sL_law_375
def sL_law_373 : List Nat := 87 :: sL_law_374
def sL_law_370 : List Nat := 182 :: 0 :: 144 :: sL_law_373
def sL_law_369 : List Nat := 43 :: sL_law_370
def sL_law_366 : List Nat := 167 :: 6 :: 164 :: sL_law_369
def sL_law_364 : List Nat := 54 :: 6 :: sL_law_366
def sL_law_361 : List Nat := 182 :: 0 :: 143 :: sL_law_364
def sL_law_360 : List Nat := 46 :: sL_law_361
def sL_law_359 : List Nat := 96 :: sL_law_360
def sL_law_358 : List Nat := 6 :: sL_law_359
def sL_law_356 : List Nat := 21 :: 4 :: sL_law_358
def sL_law_355 : List Nat := 42 :: sL_law_356
def sL_law_354 : List Nat := 46 :: sL_law_355
def sL_law_353 : List Nat := 96 :: sL_law_354
def sL_law_352 : List Nat := 5 :: sL_law_353
def sL_law_350 : List Nat := 21 :: 4 :: sL_law_352
def sL_law_349 : List Nat := 42 :: sL_law_350
def sL_law_348 : List Nat := 46 :: sL_law_349
def sL_law_347 : List Nat := 96 :: sL_law_348
def sL_law_346 : List Nat := 4 :: sL_law_347
def sL_law_344 : List Nat := 21 :: 4 :: sL_law_346
def sL_law_343 : List Nat := 42 :: sL_law_344
def sL_law_342 : List Nat := 44 :: sL_law_343
def sL_law_340 : List Nat := 54 :: 5 :: sL_law_342
def sL_law_337 : List Nat := 184 :: 0 :: 140 :: sL_law_340
def sL_law_336 : List Nat := 45 :: sL_law_337
def sL_law_335 : List Nat := 46 :: sL_law_336
def sL_law_334 : List Nat := 96 :: sL_law_335
def sL_law_333 : List Nat := 6 :: sL_law_334
def sL_law_331 : List Nat := 21 :: 4 :: sL_law_333
def sL_law_330 : List Nat := 42 :: sL_law_331
def sL_law_329 : List Nat := 46 :: sL_law_330
def sL_law_328 : List Nat := 96 :: sL_law_329
def sL_law_327 : List Nat := 5 :: sL_law_328
def sL_law_325 : List Nat := 21 :: 4 :: sL_law_327
def sL_law_324 : List Nat := 42 :: sL_law_325
def sL_law_323 : List Nat := 46 :: sL_law_324
def sL_law_322 : List Nat := 96 :: sL_law_323
def sL_law_321 : List Nat := 4 :: sL_law_322
def sL_law_319 : List Nat := 21 :: 4 :: sL_law_321
def sL_law_318 : List Nat := 42 :: sL_law_319
def sL_law_317 : List Nat := 43 :: sL_law_318
def sL_law_314 : List Nat := 167 :: 6 :: 216 :: sL_law_317
def sL_law_312 : List Nat := 54 :: 6 :: sL_law_314
def sL_law_309 : List Nat := 182 :: 0 :: 139 :: sL_law_312
def sL_law_308 : List Nat := 46 :: sL_law_309
def sL_law_307 : List Nat := 96 :: sL_law_308
def sL_law_306 : List Nat := 4 :: sL_law_307
def sL_law_304 : List Nat := 21 :: 4 :: sL_law_306
def sL_law_303 : List Nat := 42 :: sL_law_304
def sL_law_302 : List Nat := 44 :: sL_law_303
def sL_law_300 : List Nat := 54 :: 5 :: sL_law_302
def sL_law_297 : List Nat := 184 :: 0 :: 134 :: sL_law_300
def sL_law_296 : List Nat := 45 :: sL_law_297
def sL_law_295 : List Nat := 46 :: sL_law_296
def sL_law_294 : List Nat := 96 :: sL_law_295
def sL_law_293 : List Nat := 4 :: sL_law_294
def sL_law_291 : List Nat := 21 :: 4 :: sL_law_293
def sL_law_290 : List Nat := 42 :: sL_law_291
def sL_law_289 : List Nat := 43 :: sL_law_290
def sL_law_286 : List Nat := 167 :: 6 :: 244 :: sL_law_289
def sL_law_285 : List Nat := 87 :: sL_law_286
def sL_law_282 : List Nat := 182 :: 0 :: 133 :: sL_law_285
def sL_law_281 : List Nat := 46 :: sL_law_282
def sL_law_280 : List Nat := 96 :: sL_law_281
def sL_law_279 : List Nat := 8 :: sL_law_280
def sL_law_277 : List Nat := 21 :: 4 :: sL_law_279
def sL_law_276 : List Nat := 42 :: sL_law_277
def sL_law_275 : List Nat := 46 :: sL_law_276
def sL_law_274 : List Nat := 96 :: sL_law_275
def sL_law_273 : List Nat := 7 :: sL_law_274
def sL_law_271 : List Nat := 21 :: 4 :: sL_law_273
def sL_law_270 : List Nat := 42 :: sL_law_271
def sL_law_269 : List Nat := 46 :: sL_law_270
def sL_law_268 : List Nat := 96 :: sL_law_269
def sL_law_267 : List Nat := 6 :: sL_law_268
def sL_law_265 : List Nat := 21 :: 4 :: sL_law_267
def sL_law_264 : List Nat := 42 :: sL_law_265
def sL_law_263 : List Nat := 46 :: sL_law_264
def sL_law_262 : List Nat := 96 :: sL_law_263
def sL_law_261 : List Nat := 5 :: sL_law_262
def sL_law_259 : List Nat := 21 :: 4 :: sL_law_261
def sL_law_258 : List Nat := 42 :: sL_law_259
def sL_law_257 : List Nat := 46 :: sL_law_258
def sL_law_256 : List Nat := 96 :: sL_law_257
def sL_law_255 : List Nat := 4 :: sL_law_256
def sL_law_253 : List Nat := 21 :: 4 :: sL_law_255
def sL_law_252 : List Nat := 42 :: sL_law_253
def sL_law_251 : List Nat := 44 :: sL_law_252
def sL_law_250 : List Nat := 87 :: sL_law_251
def sL_law_247 : List Nat := 182 :: 0 :: 130 :: sL_law_250
def sL_law_246 : List Nat := 46 :: sL_law_247
def sL_law_245 : List Nat := 96 :: sL_law_246
def sL_law_244 : List Nat := 8 :: sL_law_245
def sL_law_242 : List Nat := 21 :: 4 :: sL_law_244
def sL_law_241 : List Nat := 42 :: sL_law_242
def sL_law_240 : List Nat := 46 :: sL_law_241
def sL_law_239 : List Nat := 96 :: sL_law_240
def sL_law_238 : List Nat := 7 :: sL_law_239
def sL_law_236 : List Nat := 21 :: 4 :: sL_law_238
def sL_law_235 : List Nat := 42 :: sL_law_236
def sL_law_234 : List Nat := 46 :: sL_law_235
def sL_law_233 : List Nat := 96 :: sL_law_234
def sL_law_232 : List Nat := 6 :: sL_law_233
def sL_law_230 : List Nat := 21 :: 4 :: sL_law_232
def sL_law_229 : List Nat := 42 :: sL_law_230
def sL_law_228 : List Nat := 46 :: sL_law_229
def sL_law_227 : List Nat := 96 :: sL_law_228
def sL_law_226 : List Nat := 5 :: sL_law_227
def sL_law_224 : List Nat := 21 :: 4 :: sL_law_226
def sL_law_223 : List Nat := 42 :: sL_law_224
def sL_law_222 : List Nat := 46 :: sL_law_223
def sL_law_221 : List Nat := 96 :: sL_law_222
def sL_law_220 : List Nat := 4 :: sL_law_221
def sL_law_218 : List Nat := 21 :: 4 :: sL_law_220
def sL_law_217 : List Nat := 42 :: sL_law_218
def sL_law_216 : List Nat := 43 :: sL_law_217
def sL_law_40 : List Nat := 170 :: 0 :: 0 :: 0 :: 0 :: 0 :: 7 :: 234 :: 0 :: 0 :: 0 :: 0 :: 0 :: 0 :: 0 :: 39 :: 0 :: 0 :: 0 :: 176 :: 0 :: 0 :: 0 :: 249 :: 0 :: 0 :: 1 :: 21 :: 0 :: 0 :: 1 :: 73 :: 0 :: 0 :: 1 :: 86 :: 0 :: 0 :: 1 :: 114 :: 0 :: 0 :: 1 :: 166 :: 0 :: 0 :: 1 :: 246 :: 0 :: 0 :: 2 :: 54 :: 0 :: 0 :: 2 :: 130 :: 0 :: 0 :: 2 :: 158 :: 0 :: 0 :: 2 :: 234 :: 0 :: 0 :: 3 :: 42 :: 0 :: 0 :: 3 :: 82 :: 0 :: 0 :: 3 :: 134 :: 0 :: 0 :: 3 :: 174 :: 0 :: 0 :: 3 :: 226 :: 0 :: 0 :: 4 :: 34 :: 0 :: 0 :: 4 :: 98 :: 0 :: 0 :: 4 :: 150 :: 0 :: 0 :: 4 :: 190 :: 0 :: 0 :: 4 :: 251 :: 0 :: 0 :: 5 :: 23 :: 0 :: 0 :: 5 :: 51 :: 0 :: 0 :: 5 :: 64 :: 0 :: 0 :: 5 :: 77 :: 0 :: 0 :: 5 :: 153 :: 0 :: 0 :: 5 :: 217 :: 0 :: 0 :: 6 :: 13 :: 0 :: 0 :: 6 :: 53 :: 0 :: 0 :: 6 :: 105 :: 0 :: 0 :: 6 :: 145 :: 0 :: 0 :: 6 :: 197 :: 0 :: 0 :: 6 :: 249 :: 0 :: 0 :: 7 :: 33 :: 0 :: 0 :: 7 :: 46 :: 0 :: 0 :: 7 :: 74 :: 0 :: 0 :: 7 :: 126 :: 0 :: 0 :: 7 :: 166 :: 0 :: 0 :: 7 :: 194 :: sL_law_216
def sL_law_39 : List Nat := 126 :: sL_law_40
def sL_law_37 : List Nat := 16 :: 63 :: sL_law_39
def sL_law_36 : List Nat := 46 :: sL_law_37
def sL_law_34 : List Nat := 21 :: 4 :: sL_law_36
def sL_law_33 : List Nat := 42 :: sL_law_34
def sL_law_30 : List Nat := 163 :: 7 :: 250 :: sL_law_33
def sL_law_29 : List Nat := 100 :: sL_law_30
def sL_law_27 : List Nat := 16 :: 6 :: sL_law_29
def sL_law_26 : List Nat := 190 :: sL_law_27
def sL_law_25 : List Nat := 42 :: sL_law_26
def sL_law_23 : List Nat := 21 :: 4 :: sL_law_25
def sL_law_21 : List Nat := 54 :: 4 :: sL_law_23
def sL_law_20 : List Nat := 3 :: sL_law_21
def sL_law_19 : List Nat := 78 :: sL_law_20
def sL_law_17 : List Nat := 188 :: 11 :: sL_law_19
def sL_law_16 : List Nat := 4 :: sL_law_17
def sL_law_15 : List Nat := 77 :: sL_law_16
def sL_law_12 : List Nat := 183 :: 0 :: 129 :: sL_law_15
def sL_law_11 : List Nat := 89 :: sL_law_12
def sL_law_8 : List Nat := 187 :: 0 :: 127 :: sL_law_11
def sL_law_7 : List Nat := 76 :: sL_law_8
def sL_law_4 : List Nat := 183 :: 0 :: 126 :: sL_law_7
def sL_law_3 : List Nat := 89 :: sL_law_4
def sL_law_0 : List Nat := 187 :: 0 :: 8 :: sL_law_3
theorem aL_law_0 : dc_at cL_law 0 sL_law_0 := dc_base (by decide +kernel)
theorem aL_law_3 : dc_at cL_law 3 sL_law_3 := dc_n3 aL_law_0
theorem aL_law_4 : dc_at cL_law 4 sL_law_4 := dc_n1 aL_law_3
theorem aL_law_7 : dc_at cL_law 7 sL_law_7 := dc_n3 aL_law_4
theorem aL_law_8 : dc_at cL_law 8 sL_law_8 := dc_n1 aL_law_7
theorem aL_law_11 : dc_at cL_law 11 sL_law_11 := dc_n3 aL_law_8
theorem aL_law_12 : dc_at cL_law 12 sL_law_12 := dc_n1 aL_law_11
theorem aL_law_15 : dc_at cL_law 15 sL_law_15 := dc_n3 aL_law_12
theorem aL_law_16 : dc_at cL_law 16 sL_law_16 := dc_n1 aL_law_15
theorem aL_law_17 : dc_at cL_law 17 sL_law_17 := dc_n1 aL_law_16
theorem aL_law_19 : dc_at cL_law 19 sL_law_19 := dc_n2 aL_law_17
theorem aL_law_20 : dc_at cL_law 20 sL_law_20 := dc_n1 aL_law_19
theorem aL_law_21 : dc_at cL_law 21 sL_law_21 := dc_n1 aL_law_20
theorem aL_law_23 : dc_at cL_law 23 sL_law_23 := dc_n2 aL_law_21
theorem aL_law_25 : dc_at cL_law 25 sL_law_25 := dc_n2 aL_law_23
theorem aL_law_26 : dc_at cL_law 26 sL_law_26 := dc_n1 aL_law_25
theorem aL_law_27 : dc_at cL_law 27 sL_law_27 := dc_n1 aL_law_26
theorem aL_law_29 : dc_at cL_law 29 sL_law_29 := dc_n2 aL_law_27
theorem aL_law_30 : dc_at cL_law 30 sL_law_30 := dc_n1 aL_law_29
theorem aL_law_33 : dc_at cL_law 33 sL_law_33 := dc_n3 aL_law_30
theorem aL_law_34 : dc_at cL_law 34 sL_law_34 := dc_n1 aL_law_33
theorem aL_law_36 : dc_at cL_law 36 sL_law_36 := dc_n2 aL_law_34
theorem aL_law_37 : dc_at cL_law 37 sL_law_37 := dc_n1 aL_law_36
theorem aL_law_39 : dc_at cL_law 39 sL_law_39 := dc_n2 aL_law_37
theorem aL_law_40 : dc_at cL_law 40 sL_law_40 := dc_n1 aL_law_39
theorem aL_law_216 : dc_at cL_law 216 sL_law_216 := dc_nn (k := 176) aL_law_40 rfl
theorem aL_law_217 : dc_at cL_law 217 sL_law_217 := dc_n1 aL_law_216
theorem aL_law_218 : dc_at cL_law 218 sL_law_218 := dc_n1 aL_law_217
theorem aL_law_220 : dc_at cL_law 220 sL_law_220 := dc_n2 aL_law_218
theorem aL_law_221 : dc_at cL_law 221 sL_law_221 := dc_n1 aL_law_220
theorem aL_law_222 : dc_at cL_law 222 sL_law_222 := dc_n1 aL_law_221
theorem aL_law_223 : dc_at cL_law 223 sL_law_223 := dc_n1 aL_law_222
theorem aL_law_224 : dc_at cL_law 224 sL_law_224 := dc_n1 aL_law_223
theorem aL_law_226 : dc_at cL_law 226 sL_law_226 := dc_n2 aL_law_224
theorem aL_law_227 : dc_at cL_law 227 sL_law_227 := dc_n1 aL_law_226
theorem aL_law_228 : dc_at cL_law 228 sL_law_228 := dc_n1 aL_law_227
theorem aL_law_229 : dc_at cL_law 229 sL_law_229 := dc_n1 aL_law_228
theorem aL_law_230 : dc_at cL_law 230 sL_law_230 := dc_n1 aL_law_229
theorem aL_law_232 : dc_at cL_law 232 sL_law_232 := dc_n2 aL_law_230
theorem aL_law_233 : dc_at cL_law 233 sL_law_233 := dc_n1 aL_law_232
theorem aL_law_234 : dc_at cL_law 234 sL_law_234 := dc_n1 aL_law_233
theorem aL_law_235 : dc_at cL_law 235 sL_law_235 := dc_n1 aL_law_234
theorem aL_law_236 : dc_at cL_law 236 sL_law_236 := dc_n1 aL_law_235
theorem aL_law_238 : dc_at cL_law 238 sL_law_238 := dc_n2 aL_law_236
theorem aL_law_239 : dc_at cL_law 239 sL_law_239 := dc_n1 aL_law_238
theorem aL_law_240 : dc_at cL_law 240 sL_law_240 := dc_n1 aL_law_239
theorem aL_law_241 : dc_at cL_law 241 sL_law_241 := dc_n1 aL_law_240
theorem aL_law_242 : dc_at cL_law 242 sL_law_242 := dc_n1 aL_law_241
theorem aL_law_244 : dc_at cL_law 244 sL_law_244 := dc_n2 aL_law_242
theorem aL_law_245 : dc_at cL_law 245 sL_law_245 := dc_n1 aL_law_244
theorem aL_law_246 : dc_at cL_law 246 sL_law_246 := dc_n1 aL_law_245
theorem aL_law_247 : dc_at cL_law 247 sL_law_247 := dc_n1 aL_law_246
theorem aL_law_250 : dc_at cL_law 250 sL_law_250 := dc_n3 aL_law_247
theorem aL_law_251 : dc_at cL_law 251 sL_law_251 := dc_n1 aL_law_250
theorem aL_law_252 : dc_at cL_law 252 sL_law_252 := dc_n1 aL_law_251
theorem aL_law_253 : dc_at cL_law 253 sL_law_253 := dc_n1 aL_law_252
theorem aL_law_255 : dc_at cL_law 255 sL_law_255 := dc_n2 aL_law_253
theorem aL_law_256 : dc_at cL_law 256 sL_law_256 := dc_n1 aL_law_255
theorem aL_law_257 : dc_at cL_law 257 sL_law_257 := dc_n1 aL_law_256
theorem aL_law_258 : dc_at cL_law 258 sL_law_258 := dc_n1 aL_law_257
theorem aL_law_259 : dc_at cL_law 259 sL_law_259 := dc_n1 aL_law_258
theorem aL_law_261 : dc_at cL_law 261 sL_law_261 := dc_n2 aL_law_259
theorem aL_law_262 : dc_at cL_law 262 sL_law_262 := dc_n1 aL_law_261
theorem aL_law_263 : dc_at cL_law 263 sL_law_263 := dc_n1 aL_law_262
theorem aL_law_264 : dc_at cL_law 264 sL_law_264 := dc_n1 aL_law_263
theorem aL_law_265 : dc_at cL_law 265 sL_law_265 := dc_n1 aL_law_264
theorem aL_law_267 : dc_at cL_law 267 sL_law_267 := dc_n2 aL_law_265
theorem aL_law_268 : dc_at cL_law 268 sL_law_268 := dc_n1 aL_law_267
theorem aL_law_269 : dc_at cL_law 269 sL_law_269 := dc_n1 aL_law_268
theorem aL_law_270 : dc_at cL_law 270 sL_law_270 := dc_n1 aL_law_269
theorem aL_law_271 : dc_at cL_law 271 sL_law_271 := dc_n1 aL_law_270
theorem aL_law_273 : dc_at cL_law 273 sL_law_273 := dc_n2 aL_law_271
theorem aL_law_274 : dc_at cL_law 274 sL_law_274 := dc_n1 aL_law_273
theorem aL_law_275 : dc_at cL_law 275 sL_law_275 := dc_n1 aL_law_274
theorem aL_law_276 : dc_at cL_law 276 sL_law_276 := dc_n1 aL_law_275
theorem aL_law_277 : dc_at cL_law 277 sL_law_277 := dc_n1 aL_law_276
theorem aL_law_279 : dc_at cL_law 279 sL_law_279 := dc_n2 aL_law_277
theorem aL_law_280 : dc_at cL_law 280 sL_law_280 := dc_n1 aL_law_279
theorem aL_law_281 : dc_at cL_law 281 sL_law_281 := dc_n1 aL_law_280
theorem aL_law_282 : dc_at cL_law 282 sL_law_282 := dc_n1 aL_law_281
theorem aL_law_285 : dc_at cL_law 285 sL_law_285 := dc_n3 aL_law_282
theorem aL_law_286 : dc_at cL_law 286 sL_law_286 := dc_n1 aL_law_285
theorem aL_law_289 : dc_at cL_law 289 sL_law_289 := dc_n3 aL_law_286
theorem aL_law_290 : dc_at cL_law 290 sL_law_290 := dc_n1 aL_law_289
theorem aL_law_291 : dc_at cL_law 291 sL_law_291 := dc_n1 aL_law_290
theorem aL_law_293 : dc_at cL_law 293 sL_law_293 := dc_n2 aL_law_291
theorem aL_law_294 : dc_at cL_law 294 sL_law_294 := dc_n1 aL_law_293
theorem aL_law_295 : dc_at cL_law 295 sL_law_295 := dc_n1 aL_law_294
theorem aL_law_296 : dc_at cL_law 296 sL_law_296 := dc_n1 aL_law_295
theorem aL_law_297 : dc_at cL_law 297 sL_law_297 := dc_n1 aL_law_296
theorem aL_law_300 : dc_at cL_law 300 sL_law_300 := dc_n3 aL_law_297
theorem aL_law_302 : dc_at cL_law 302 sL_law_302 := dc_n2 aL_law_300
theorem aL_law_303 : dc_at cL_law 303 sL_law_303 := dc_n1 aL_law_302
theorem aL_law_304 : dc_at cL_law 304 sL_law_304 := dc_n1 aL_law_303
theorem aL_law_306 : dc_at cL_law 306 sL_law_306 := dc_n2 aL_law_304
theorem aL_law_307 : dc_at cL_law 307 sL_law_307 := dc_n1 aL_law_306
theorem aL_law_308 : dc_at cL_law 308 sL_law_308 := dc_n1 aL_law_307
theorem aL_law_309 : dc_at cL_law 309 sL_law_309 := dc_n1 aL_law_308
theorem aL_law_312 : dc_at cL_law 312 sL_law_312 := dc_n3 aL_law_309
theorem aL_law_314 : dc_at cL_law 314 sL_law_314 := dc_n2 aL_law_312
theorem aL_law_317 : dc_at cL_law 317 sL_law_317 := dc_n3 aL_law_314
theorem aL_law_318 : dc_at cL_law 318 sL_law_318 := dc_n1 aL_law_317
theorem aL_law_319 : dc_at cL_law 319 sL_law_319 := dc_n1 aL_law_318
theorem aL_law_321 : dc_at cL_law 321 sL_law_321 := dc_n2 aL_law_319
theorem aL_law_322 : dc_at cL_law 322 sL_law_322 := dc_n1 aL_law_321
theorem aL_law_323 : dc_at cL_law 323 sL_law_323 := dc_n1 aL_law_322
theorem aL_law_324 : dc_at cL_law 324 sL_law_324 := dc_n1 aL_law_323
theorem aL_law_325 : dc_at cL_law 325 sL_law_325 := dc_n1 aL_law_324
theorem aL_law_327 : dc_at cL_law 327 sL_law_327 := dc_n2 aL_law_325
theorem aL_law_328 : dc_at cL_law 328 sL_law_328 := dc_n1 aL_law_327
theorem aL_law_329 : dc_at cL_law 329 sL_law_329 := dc_n1 aL_law_328
theorem aL_law_330 : dc_at cL_law 330 sL_law_330 := dc_n1 aL_law_329
theorem aL_law_331 : dc_at cL_law 331 sL_law_331 := dc_n1 aL_law_330
theorem aL_law_333 : dc_at cL_law 333 sL_law_333 := dc_n2 aL_law_331
theorem aL_law_334 : dc_at cL_law 334 sL_law_334 := dc_n1 aL_law_333
theorem aL_law_335 : dc_at cL_law 335 sL_law_335 := dc_n1 aL_law_334
theorem aL_law_336 : dc_at cL_law 336 sL_law_336 := dc_n1 aL_law_335
theorem aL_law_337 : dc_at cL_law 337 sL_law_337 := dc_n1 aL_law_336
theorem aL_law_340 : dc_at cL_law 340 sL_law_340 := dc_n3 aL_law_337
theorem aL_law_342 : dc_at cL_law 342 sL_law_342 := dc_n2 aL_law_340
theorem aL_law_343 : dc_at cL_law 343 sL_law_343 := dc_n1 aL_law_342
theorem aL_law_344 : dc_at cL_law 344 sL_law_344 := dc_n1 aL_law_343
theorem aL_law_346 : dc_at cL_law 346 sL_law_346 := dc_n2 aL_law_344
theorem aL_law_347 : dc_at cL_law 347 sL_law_347 := dc_n1 aL_law_346
theorem aL_law_348 : dc_at cL_law 348 sL_law_348 := dc_n1 aL_law_347
theorem aL_law_349 : dc_at cL_law 349 sL_law_349 := dc_n1 aL_law_348
theorem aL_law_350 : dc_at cL_law 350 sL_law_350 := dc_n1 aL_law_349
theorem aL_law_352 : dc_at cL_law 352 sL_law_352 := dc_n2 aL_law_350
theorem aL_law_353 : dc_at cL_law 353 sL_law_353 := dc_n1 aL_law_352
theorem aL_law_354 : dc_at cL_law 354 sL_law_354 := dc_n1 aL_law_353
theorem aL_law_355 : dc_at cL_law 355 sL_law_355 := dc_n1 aL_law_354
theorem aL_law_356 : dc_at cL_law 356 sL_law_356 := dc_n1 aL_law_355
theorem aL_law_358 : dc_at cL_law 358 sL_law_358 := dc_n2 aL_law_356
theorem aL_law_359 : dc_at cL_law 359 sL_law_359 := dc_n1 aL_law_358
theorem aL_law_360 : dc_at cL_law 360 sL_law_360 := dc_n1 aL_law_359
theorem aL_law_361 : dc_at cL_law 361 sL_law_361 := dc_n1 aL_law_360
theorem aL_law_364 : dc_at cL_law 364 sL_law_364 := dc_n3 aL_law_361
theorem aL_law_366 : dc_at cL_law 366 sL_law_366 := dc_n2 aL_law_364
theorem aL_law_369 : dc_at cL_law 369 sL_law_369 := dc_n3 aL_law_366
theorem aL_law_370 : dc_at cL_law 370 sL_law_370 := dc_n1 aL_law_369
theorem aL_law_373 : dc_at cL_law 373 sL_law_373 := dc_n3 aL_law_370
theorem aL_law_374 : dc_at cL_law 374 sL_law_374 := dc_n1 aL_law_373
theorem aL_law_375 : dc_at cL_law 375 sL_law_375 := dc_n1 aL_law_374
theorem aL_law_378 : dc_at cL_law 378 sL_law_378 := dc_n3 aL_law_375
theorem aL_law_379 : dc_at cL_law 379 sL_law_379 := dc_n1 aL_law_378
theorem aL_law_382 : dc_at cL_law 382 sL_law_382 := dc_n3 aL_law_379
theorem aL_law_383 : dc_at cL_law 383 sL_law_383 := dc_n1 aL_law_382
theorem aL_law_384 : dc_at cL_law 384 sL_law_384 := dc_n1 aL_law_383
theorem aL_law_386 : dc_at cL_law 386 sL_law_386 := dc_n2 aL_law_384
theorem aL_law_387 : dc_at cL_law 387 sL_law_387 := dc_n1 aL_law_386
theorem aL_law_388 : dc_at cL_law 388 sL_law_388 := dc_n1 aL_law_387
theorem aL_law_389 : dc_at cL_law 389 sL_law_389 := dc_n1 aL_law_388
theorem aL_law_390 : dc_at cL_law 390 sL_law_390 := dc_n1 aL_law_389
theorem aL_law_393 : dc_at cL_law 393 sL_law_393 := dc_n3 aL_law_390
theorem aL_law_395 : dc_at cL_law 395 sL_law_395 := dc_n2 aL_law_393
theorem aL_law_396 : dc_at cL_law 396 sL_law_396 := dc_n1 aL_law_395
theorem aL_law_397 : dc_at cL_law 397 sL_law_397 := dc_n1 aL_law_396
theorem aL_law_399 : dc_at cL_law 399 sL_law_399 := dc_n2 aL_law_397
theorem aL_law_400 : dc_at cL_law 400 sL_law_400 := dc_n1 aL_law_399
theorem aL_law_401 : dc_at cL_law 401 sL_law_401 := dc_n1 aL_law_400
theorem aL_law_402 : dc_at cL_law 402 sL_law_402 := dc_n1 aL_law_401
theorem aL_law_405 : dc_at cL_law 405 sL_law_405 := dc_n3 aL_law_402
theorem aL_law_407 : dc_at cL_law 407 sL_law_407 := dc_n2 aL_law_405
theorem aL_law_410 : dc_at cL_law 410 sL_law_410 := dc_n3 aL_law_407
theorem aL_law_411 : dc_at cL_law 411 sL_law_411 := dc_n1 aL_law_410
theorem aL_law_412 : dc_at cL_law 412 sL_law_412 := dc_n1 aL_law_411
theorem aL_law_414 : dc_at cL_law 414 sL_law_414 := dc_n2 aL_law_412
theorem aL_law_415 : dc_at cL_law 415 sL_law_415 := dc_n1 aL_law_414
theorem aL_law_416 : dc_at cL_law 416 sL_law_416 := dc_n1 aL_law_415
theorem aL_law_417 : dc_at cL_law 417 sL_law_417 := dc_n1 aL_law_416
theorem aL_law_418 : dc_at cL_law 418 sL_law_418 := dc_n1 aL_law_417
theorem aL_law_420 : dc_at cL_law 420 sL_law_420 := dc_n2 aL_law_418
theorem aL_law_421 : dc_at cL_law 421 sL_law_421 := dc_n1 aL_law_420
theorem aL_law_422 : dc_at cL_law 422 sL_law_422 := dc_n1 aL_law_421
theorem aL_law_423 : dc_at cL_law 423 sL_law_423 := dc_n1 aL_law_422
theorem aL_law_424 : dc_at cL_law 424 sL_law_424 := dc_n1 aL_law_423
theorem aL_law_426 : dc_at cL_law 426 sL_law_426 := dc_n2 aL_law_424
theorem aL_law_427 : dc_at cL_law 427 sL_law_427 := dc_n1 aL_law_426
theorem aL_law_428 : dc_at cL_law 428 sL_law_428 := dc_n1 aL_law_427
theorem aL_law_429 : dc_at cL_law 429 sL_law_429 := dc_n1 aL_law_428
theorem aL_law_430 : dc_at cL_law 430 sL_law_430 := dc_n1 aL_law_429
theorem aL_law_433 : dc_at cL_law 433 sL_law_433 := dc_n3 aL_law_430
theorem aL_law_435 : dc_at cL_law 435 sL_law_435 := dc_n2 aL_law_433
theorem aL_law_436 : dc_at cL_law 436 sL_law_436 := dc_n1 aL_law_435
theorem aL_law_437 : dc_at cL_law 437 sL_law_437 := dc_n1 aL_law_436
theorem aL_law_439 : dc_at cL_law 439 sL_law_439 := dc_n2 aL_law_437
theorem aL_law_440 : dc_at cL_law 440 sL_law_440 := dc_n1 aL_law_439
theorem aL_law_441 : dc_at cL_law 441 sL_law_441 := dc_n1 aL_law_440
theorem aL_law_442 : dc_at cL_law 442 sL_law_442 := dc_n1 aL_law_441
theorem aL_law_443 : dc_at cL_law 443 sL_law_443 := dc_n1 aL_law_442
theorem aL_law_445 : dc_at cL_law 445 sL_law_445 := dc_n2 aL_law_443
theorem aL_law_446 : dc_at cL_law 446 sL_law_446 := dc_n1 aL_law_445
theorem aL_law_447 : dc_at cL_law 447 sL_law_447 := dc_n1 aL_law_446
theorem aL_law_448 : dc_at cL_law 448 sL_law_448 := dc_n1 aL_law_447
theorem aL_law_449 : dc_at cL_law 449 sL_law_449 := dc_n1 aL_law_448
theorem aL_law_451 : dc_at cL_law 451 sL_law_451 := dc_n2 aL_law_449
theorem aL_law_452 : dc_at cL_law 452 sL_law_452 := dc_n1 aL_law_451
theorem aL_law_453 : dc_at cL_law 453 sL_law_453 := dc_n1 aL_law_452
theorem aL_law_454 : dc_at cL_law 454 sL_law_454 := dc_n1 aL_law_453
theorem aL_law_457 : dc_at cL_law 457 sL_law_457 := dc_n3 aL_law_454
theorem aL_law_459 : dc_at cL_law 459 sL_law_459 := dc_n2 aL_law_457
theorem aL_law_462 : dc_at cL_law 462 sL_law_462 := dc_n3 aL_law_459
theorem aL_law_463 : dc_at cL_law 463 sL_law_463 := dc_n1 aL_law_462
theorem aL_law_464 : dc_at cL_law 464 sL_law_464 := dc_n1 aL_law_463
theorem aL_law_466 : dc_at cL_law 466 sL_law_466 := dc_n2 aL_law_464
theorem aL_law_467 : dc_at cL_law 467 sL_law_467 := dc_n1 aL_law_466
theorem aL_law_468 : dc_at cL_law 468 sL_law_468 := dc_n1 aL_law_467
theorem aL_law_469 : dc_at cL_law 469 sL_law_469 := dc_n1 aL_law_468
theorem aL_law_470 : dc_at cL_law 470 sL_law_470 := dc_n1 aL_law_469
theorem aL_law_472 : dc_at cL_law 472 sL_law_472 := dc_n2 aL_law_470
theorem aL_law_473 : dc_at cL_law 473 sL_law_473 := dc_n1 aL_law_472
theorem aL_law_474 : dc_at cL_law 474 sL_law_474 := dc_n1 aL_law_473
theorem aL_law_475 : dc_at cL_law 475 sL_law_475 := dc_n1 aL_law_474
theorem aL_law_476 : dc_at cL_law 476 sL_law_476 := dc_n1 aL_law_475
theorem aL_law_478 : dc_at cL_law 478 sL_law_478 := dc_n2 aL_law_476
theorem aL_law_479 : dc_at cL_law 479 sL_law_479 := dc_n1 aL_law_478
theorem aL_law_480 : dc_at cL_law 480 sL_law_480 := dc_n1 aL_law_479
theorem aL_law_481 : dc_at cL_law 481 sL_law_481 := dc_n1 aL_law_480
theorem aL_law_482 : dc_at cL_law 482 sL_law_482 := dc_n1 aL_law_481
theorem aL_law_485 : dc_at cL_law 485 sL_law_485 := dc_n3 aL_law_482
theorem aL_law_487 : dc_at cL_law 487 sL_law_487 := dc_n2 aL_law_485
theorem aL_law_488 : dc_at cL_law 488 sL_law_488 := dc_n1 aL_law_487
theorem aL_law_489 : dc_at cL_law 489 sL_law_489 := dc_n1 aL_law_488
theorem aL_law_491 : dc_at cL_law 491 sL_law_491 := dc_n2 aL_law_489
theorem aL_law_492 : dc_at cL_law 492 sL_law_492 := dc_n1 aL_law_491
theorem aL_law_493 : dc_at cL_law 493 sL_law_493 := dc_n1 aL_law_492
theorem aL_law_494 : dc_at cL_law 494 sL_law_494 := dc_n1 aL_law_493
theorem aL_law_495 : dc_at cL_law 495 sL_law_495 := dc_n1 aL_law_494
theorem aL_law_497 : dc_at cL_law 497 sL_law_497 := dc_n2 aL_law_495
theorem aL_law_498 : dc_at cL_law 498 sL_law_498 := dc_n1 aL_law_497
theorem aL_law_499 : dc_at cL_law 499 sL_law_499 := dc_n1 aL_law_498
theorem aL_law_500 : dc_at cL_law 500 sL_law_500 := dc_n1 aL_law_499
theorem aL_law_501 : dc_at cL_law 501 sL_law_501 := dc_n1 aL_law_500
theorem aL_law_503 : dc_at cL_law 503 sL_law_503 := dc_n2 aL_law_501
theorem aL_law_504 : dc_at cL_law 504 sL_law_504 := dc_n1 aL_law_503
theorem aL_law_505 : dc_at cL_law 505 sL_law_505 := dc_n1 aL_law_504
theorem aL_law_506 : dc_at cL_law 506 sL_law_506 := dc_n1 aL_law_505
theorem aL_law_509 : dc_at cL_law 509 sL_law_509 := dc_n3 aL_law_506
theorem aL_law_511 : dc_at cL_law 511 sL_law_511 := dc_n2 aL_law_509
theorem aL_law_512 : dc_at cL_law 512 sL_law_512 := dc_n1 aL_law_511
theorem aL_law_515 : dc_at cL_law 515 sL_law_515 := dc_n3 aL_law_512
theorem aL_law_517 : dc_at cL_law 517 sL_law_517 := dc_n2 aL_law_515
theorem aL_law_520 : dc_at cL_law 520 sL_law_520 := dc_n3 aL_law_517
theorem aL_law_521 : dc_at cL_law 521 sL_law_521 := dc_n1 aL_law_520
theorem aL_law_522 : dc_at cL_law 522 sL_law_522 := dc_n1 aL_law_521
theorem aL_law_524 : dc_at cL_law 524 sL_law_524 := dc_n2 aL_law_522
theorem aL_law_527 : dc_at cL_law 527 sL_law_527 := dc_n3 aL_law_524
theorem aL_law_528 : dc_at cL_law 528 sL_law_528 := dc_n1 aL_law_527
theorem aL_law_529 : dc_at cL_law 529 sL_law_529 := dc_n1 aL_law_528
theorem aL_law_530 : dc_at cL_law 530 sL_law_530 := dc_n1 aL_law_529
theorem aL_law_532 : dc_at cL_law 532 sL_law_532 := dc_n2 aL_law_530
theorem aL_law_533 : dc_at cL_law 533 sL_law_533 := dc_n1 aL_law_532
theorem aL_law_534 : dc_at cL_law 534 sL_law_534 := dc_n1 aL_law_533
theorem aL_law_537 : dc_at cL_law 537 sL_law_537 := dc_n3 aL_law_534
theorem aL_law_538 : dc_at cL_law 538 sL_law_538 := dc_n1 aL_law_537
theorem aL_law_539 : dc_at cL_law 539 sL_law_539 := dc_n1 aL_law_538
theorem aL_law_542 : dc_at cL_law 542 sL_law_542 := dc_n3 aL_law_539
theorem aL_law_543 : dc_at cL_law 543 sL_law_543 := dc_n1 aL_law_542
theorem aL_law_544 : dc_at cL_law 544 sL_law_544 := dc_n1 aL_law_543
theorem aL_law_546 : dc_at cL_law 546 sL_law_546 := dc_n2 aL_law_544
theorem aL_law_547 : dc_at cL_law 547 sL_law_547 := dc_n1 aL_law_546
theorem aL_law_548 : dc_at cL_law 548 sL_law_548 := dc_n1 aL_law_547
theorem aL_law_549 : dc_at cL_law 549 sL_law_549 := dc_n1 aL_law_548
theorem aL_law_550 : dc_at cL_law 550 sL_law_550 := dc_n1 aL_law_549
theorem aL_law_552 : dc_at cL_law 552 sL_law_552 := dc_n2 aL_law_550
theorem aL_law_553 : dc_at cL_law 553 sL_law_553 := dc_n1 aL_law_552
theorem aL_law_554 : dc_at cL_law 554 sL_law_554 := dc_n1 aL_law_553
theorem aL_law_555 : dc_at cL_law 555 sL_law_555 := dc_n1 aL_law_554
theorem aL_law_556 : dc_at cL_law 556 sL_law_556 := dc_n1 aL_law_555
theorem aL_law_558 : dc_at cL_law 558 sL_law_558 := dc_n2 aL_law_556
theorem aL_law_559 : dc_at cL_law 559 sL_law_559 := dc_n1 aL_law_558
theorem aL_law_560 : dc_at cL_law 560 sL_law_560 := dc_n1 aL_law_559
theorem aL_law_561 : dc_at cL_law 561 sL_law_561 := dc_n1 aL_law_560
theorem aL_law_562 : dc_at cL_law 562 sL_law_562 := dc_n1 aL_law_561
theorem aL_law_564 : dc_at cL_law 564 sL_law_564 := dc_n2 aL_law_562
theorem aL_law_565 : dc_at cL_law 565 sL_law_565 := dc_n1 aL_law_564
theorem aL_law_566 : dc_at cL_law 566 sL_law_566 := dc_n1 aL_law_565
theorem aL_law_567 : dc_at cL_law 567 sL_law_567 := dc_n1 aL_law_566
theorem aL_law_568 : dc_at cL_law 568 sL_law_568 := dc_n1 aL_law_567
theorem aL_law_571 : dc_at cL_law 571 sL_law_571 := dc_n3 aL_law_568
theorem aL_law_573 : dc_at cL_law 573 sL_law_573 := dc_n2 aL_law_571
theorem aL_law_574 : dc_at cL_law 574 sL_law_574 := dc_n1 aL_law_573
theorem aL_law_575 : dc_at cL_law 575 sL_law_575 := dc_n1 aL_law_574
theorem aL_law_577 : dc_at cL_law 577 sL_law_577 := dc_n2 aL_law_575
theorem aL_law_578 : dc_at cL_law 578 sL_law_578 := dc_n1 aL_law_577
theorem aL_law_579 : dc_at cL_law 579 sL_law_579 := dc_n1 aL_law_578
theorem aL_law_580 : dc_at cL_law 580 sL_law_580 := dc_n1 aL_law_579
theorem aL_law_581 : dc_at cL_law 581 sL_law_581 := dc_n1 aL_law_580
theorem aL_law_583 : dc_at cL_law 583 sL_law_583 := dc_n2 aL_law_581
theorem aL_law_584 : dc_at cL_law 584 sL_law_584 := dc_n1 aL_law_583
theorem aL_law_585 : dc_at cL_law 585 sL_law_585 := dc_n1 aL_law_584
theorem aL_law_586 : dc_at cL_law 586 sL_law_586 := dc_n1 aL_law_585
theorem aL_law_587 : dc_at cL_law 587 sL_law_587 := dc_n1 aL_law_586
theorem aL_law_589 : dc_at cL_law 589 sL_law_589 := dc_n2 aL_law_587
theorem aL_law_590 : dc_at cL_law 590 sL_law_590 := dc_n1 aL_law_589
theorem aL_law_591 : dc_at cL_law 591 sL_law_591 := dc_n1 aL_law_590
theorem aL_law_592 : dc_at cL_law 592 sL_law_592 := dc_n1 aL_law_591
theorem aL_law_593 : dc_at cL_law 593 sL_law_593 := dc_n1 aL_law_592
theorem aL_law_595 : dc_at cL_law 595 sL_law_595 := dc_n2 aL_law_593
theorem aL_law_596 : dc_at cL_law 596 sL_law_596 := dc_n1 aL_law_595
theorem aL_law_597 : dc_at cL_law 597 sL_law_597 := dc_n1 aL_law_596
theorem aL_law_598 : dc_at cL_law 598 sL_law_598 := dc_n1 aL_law_597
theorem aL_law_601 : dc_at cL_law 601 sL_law_601 := dc_n3 aL_law_598
theorem aL_law_603 : dc_at cL_law 603 sL_law_603 := dc_n2 aL_law_601
theorem aL_law_606 : dc_at cL_law 606 sL_law_606 := dc_n3 aL_law_603
theorem aL_law_607 : dc_at cL_law 607 sL_law_607 := dc_n1 aL_law_606
theorem aL_law_608 : dc_at cL_law 608 sL_law_608 := dc_n1 aL_law_607
theorem aL_law_610 : dc_at cL_law 610 sL_law_610 := dc_n2 aL_law_608
theorem aL_law_611 : dc_at cL_law 611 sL_law_611 := dc_n1 aL_law_610
theorem aL_law_612 : dc_at cL_law 612 sL_law_612 := dc_n1 aL_law_611
theorem aL_law_613 : dc_at cL_law 613 sL_law_613 := dc_n1 aL_law_612
theorem aL_law_614 : dc_at cL_law 614 sL_law_614 := dc_n1 aL_law_613
theorem aL_law_616 : dc_at cL_law 616 sL_law_616 := dc_n2 aL_law_614
theorem aL_law_617 : dc_at cL_law 617 sL_law_617 := dc_n1 aL_law_616
theorem aL_law_618 : dc_at cL_law 618 sL_law_618 := dc_n1 aL_law_617
theorem aL_law_619 : dc_at cL_law 619 sL_law_619 := dc_n1 aL_law_618
theorem aL_law_620 : dc_at cL_law 620 sL_law_620 := dc_n1 aL_law_619
theorem aL_law_622 : dc_at cL_law 622 sL_law_622 := dc_n2 aL_law_620
theorem aL_law_623 : dc_at cL_law 623 sL_law_623 := dc_n1 aL_law_622
theorem aL_law_624 : dc_at cL_law 624 sL_law_624 := dc_n1 aL_law_623
theorem aL_law_625 : dc_at cL_law 625 sL_law_625 := dc_n1 aL_law_624
theorem aL_law_626 : dc_at cL_law 626 sL_law_626 := dc_n1 aL_law_625
theorem aL_law_628 : dc_at cL_law 628 sL_law_628 := dc_n2 aL_law_626
theorem aL_law_629 : dc_at cL_law 629 sL_law_629 := dc_n1 aL_law_628
theorem aL_law_630 : dc_at cL_law 630 sL_law_630 := dc_n1 aL_law_629
theorem aL_law_631 : dc_at cL_law 631 sL_law_631 := dc_n1 aL_law_630
theorem aL_law_632 : dc_at cL_law 632 sL_law_632 := dc_n1 aL_law_631
theorem aL_law_634 : dc_at cL_law 634 sL_law_634 := dc_n2 aL_law_632
theorem aL_law_635 : dc_at cL_law 635 sL_law_635 := dc_n1 aL_law_634
theorem aL_law_636 : dc_at cL_law 636 sL_law_636 := dc_n1 aL_law_635
theorem aL_law_637 : dc_at cL_law 637 sL_law_637 := dc_n1 aL_law_636
theorem aL_law_638 : dc_at cL_law 638 sL_law_638 := dc_n1 aL_law_637
theorem aL_law_641 : dc_at cL_law 641 sL_law_641 := dc_n3 aL_law_638
theorem aL_law_643 : dc_at cL_law 643 sL_law_643 := dc_n2 aL_law_641
theorem aL_law_644 : dc_at cL_law 644 sL_law_644 := dc_n1 aL_law_643
theorem aL_law_645 : dc_at cL_law 645 sL_law_645 := dc_n1 aL_law_644
theorem aL_law_647 : dc_at cL_law 647 sL_law_647 := dc_n2 aL_law_645
theorem aL_law_648 : dc_at cL_law 648 sL_law_648 := dc_n1 aL_law_647
theorem aL_law_649 : dc_at cL_law 649 sL_law_649 := dc_n1 aL_law_648
theorem aL_law_650 : dc_at cL_law 650 sL_law_650 := dc_n1 aL_law_649
theorem aL_law_651 : dc_at cL_law 651 sL_law_651 := dc_n1 aL_law_650
theorem aL_law_653 : dc_at cL_law 653 sL_law_653 := dc_n2 aL_law_651
theorem aL_law_654 : dc_at cL_law 654 sL_law_654 := dc_n1 aL_law_653
theorem aL_law_655 : dc_at cL_law 655 sL_law_655 := dc_n1 aL_law_654
theorem aL_law_656 : dc_at cL_law 656 sL_law_656 := dc_n1 aL_law_655
theorem aL_law_657 : dc_at cL_law 657 sL_law_657 := dc_n1 aL_law_656
theorem aL_law_659 : dc_at cL_law 659 sL_law_659 := dc_n2 aL_law_657
theorem aL_law_660 : dc_at cL_law 660 sL_law_660 := dc_n1 aL_law_659
theorem aL_law_661 : dc_at cL_law 661 sL_law_661 := dc_n1 aL_law_660
theorem aL_law_662 : dc_at cL_law 662 sL_law_662 := dc_n1 aL_law_661
theorem aL_law_663 : dc_at cL_law 663 sL_law_663 := dc_n1 aL_law_662
theorem aL_law_665 : dc_at cL_law 665 sL_law_665 := dc_n2 aL_law_663
theorem aL_law_666 : dc_at cL_law 666 sL_law_666 := dc_n1 aL_law_665
theorem aL_law_667 : dc_at cL_law 667 sL_law_667 := dc_n1 aL_law_666
theorem aL_law_668 : dc_at cL_law 668 sL_law_668 := dc_n1 aL_law_667
theorem aL_law_669 : dc_at cL_law 669 sL_law_669 := dc_n1 aL_law_668
theorem aL_law_671 : dc_at cL_law 671 sL_law_671 := dc_n2 aL_law_669
theorem aL_law_672 : dc_at cL_law 672 sL_law_672 := dc_n1 aL_law_671
theorem aL_law_673 : dc_at cL_law 673 sL_law_673 := dc_n1 aL_law_672
theorem aL_law_674 : dc_at cL_law 674 sL_law_674 := dc_n1 aL_law_673
theorem aL_law_677 : dc_at cL_law 677 sL_law_677 := dc_n3 aL_law_674
theorem aL_law_679 : dc_at cL_law 679 sL_law_679 := dc_n2 aL_law_677
theorem aL_law_682 : dc_at cL_law 682 sL_law_682 := dc_n3 aL_law_679
theorem aL_law_683 : dc_at cL_law 683 sL_law_683 := dc_n1 aL_law_682
theorem aL_law_684 : dc_at cL_law 684 sL_law_684 := dc_n1 aL_law_683
theorem aL_law_686 : dc_at cL_law 686 sL_law_686 := dc_n2 aL_law_684
theorem aL_law_687 : dc_at cL_law 687 sL_law_687 := dc_n1 aL_law_686
theorem aL_law_688 : dc_at cL_law 688 sL_law_688 := dc_n1 aL_law_687
theorem aL_law_689 : dc_at cL_law 689 sL_law_689 := dc_n1 aL_law_688
theorem aL_law_690 : dc_at cL_law 690 sL_law_690 := dc_n1 aL_law_689
theorem aL_law_693 : dc_at cL_law 693 sL_law_693 := dc_n3 aL_law_690
theorem aL_law_695 : dc_at cL_law 695 sL_law_695 := dc_n2 aL_law_693
theorem aL_law_696 : dc_at cL_law 696 sL_law_696 := dc_n1 aL_law_695
theorem aL_law_697 : dc_at cL_law 697 sL_law_697 := dc_n1 aL_law_696
theorem aL_law_699 : dc_at cL_law 699 sL_law_699 := dc_n2 aL_law_697
theorem aL_law_700 : dc_at cL_law 700 sL_law_700 := dc_n1 aL_law_699
theorem aL_law_701 : dc_at cL_law 701 sL_law_701 := dc_n1 aL_law_700
theorem aL_law_702 : dc_at cL_law 702 sL_law_702 := dc_n1 aL_law_701
theorem aL_law_705 : dc_at cL_law 705 sL_law_705 := dc_n3 aL_law_702
theorem aL_law_707 : dc_at cL_law 707 sL_law_707 := dc_n2 aL_law_705
theorem aL_law_710 : dc_at cL_law 710 sL_law_710 := dc_n3 aL_law_707
theorem aL_law_711 : dc_at cL_law 711 sL_law_711 := dc_n1 aL_law_710
theorem aL_law_712 : dc_at cL_law 712 sL_law_712 := dc_n1 aL_law_711
theorem aL_law_714 : dc_at cL_law 714 sL_law_714 := dc_n2 aL_law_712
theorem aL_law_715 : dc_at cL_law 715 sL_law_715 := dc_n1 aL_law_714
theorem aL_law_716 : dc_at cL_law 716 sL_law_716 := dc_n1 aL_law_715
theorem aL_law_717 : dc_at cL_law 717 sL_law_717 := dc_n1 aL_law_716
theorem aL_law_718 : dc_at cL_law 718 sL_law_718 := dc_n1 aL_law_717
theorem aL_law_720 : dc_at cL_law 720 sL_law_720 := dc_n2 aL_law_718
theorem aL_law_721 : dc_at cL_law 721 sL_law_721 := dc_n1 aL_law_720
theorem aL_law_722 : dc_at cL_law 722 sL_law_722 := dc_n1 aL_law_721
theorem aL_law_723 : dc_at cL_law 723 sL_law_723 := dc_n1 aL_law_722
theorem aL_law_724 : dc_at cL_law 724 sL_law_724 := dc_n1 aL_law_723
theorem aL_law_726 : dc_at cL_law 726 sL_law_726 := dc_n2 aL_law_724
theorem aL_law_727 : dc_at cL_law 727 sL_law_727 := dc_n1 aL_law_726
theorem aL_law_728 : dc_at cL_law 728 sL_law_728 := dc_n1 aL_law_727
theorem aL_law_729 : dc_at cL_law 729 sL_law_729 := dc_n1 aL_law_728
theorem aL_law_730 : dc_at cL_law 730 sL_law_730 := dc_n1 aL_law_729
theorem aL_law_732 : dc_at cL_law 732 sL_law_732 := dc_n2 aL_law_730
theorem aL_law_733 : dc_at cL_law 733 sL_law_733 := dc_n1 aL_law_732
theorem aL_law_734 : dc_at cL_law 734 sL_law_734 := dc_n1 aL_law_733
theorem aL_law_735 : dc_at cL_law 735 sL_law_735 := dc_n1 aL_law_734
theorem aL_law_736 : dc_at cL_law 736 sL_law_736 := dc_n1 aL_law_735
theorem aL_law_738 : dc_at cL_law 738 sL_law_738 := dc_n2 aL_law_736
theorem aL_law_739 : dc_at cL_law 739 sL_law_739 := dc_n1 aL_law_738
theorem aL_law_740 : dc_at cL_law 740 sL_law_740 := dc_n1 aL_law_739
theorem aL_law_741 : dc_at cL_law 741 sL_law_741 := dc_n1 aL_law_740
theorem aL_law_742 : dc_at cL_law 742 sL_law_742 := dc_n1 aL_law_741
theorem aL_law_745 : dc_at cL_law 745 sL_law_745 := dc_n3 aL_law_742
theorem aL_law_747 : dc_at cL_law 747 sL_law_747 := dc_n2 aL_law_745
theorem aL_law_748 : dc_at cL_law 748 sL_law_748 := dc_n1 aL_law_747
theorem aL_law_749 : dc_at cL_law 749 sL_law_749 := dc_n1 aL_law_748
theorem aL_law_751 : dc_at cL_law 751 sL_law_751 := dc_n2 aL_law_749
theorem aL_law_752 : dc_at cL_law 752 sL_law_752 := dc_n1 aL_law_751
theorem aL_law_753 : dc_at cL_law 753 sL_law_753 := dc_n1 aL_law_752
theorem aL_law_754 : dc_at cL_law 754 sL_law_754 := dc_n1 aL_law_753
theorem aL_law_755 : dc_at cL_law 755 sL_law_755 := dc_n1 aL_law_754
theorem aL_law_757 : dc_at cL_law 757 sL_law_757 := dc_n2 aL_law_755
theorem aL_law_758 : dc_at cL_law 758 sL_law_758 := dc_n1 aL_law_757
theorem aL_law_759 : dc_at cL_law 759 sL_law_759 := dc_n1 aL_law_758
theorem aL_law_760 : dc_at cL_law 760 sL_law_760 := dc_n1 aL_law_759
theorem aL_law_761 : dc_at cL_law 761 sL_law_761 := dc_n1 aL_law_760
theorem aL_law_763 : dc_at cL_law 763 sL_law_763 := dc_n2 aL_law_761
theorem aL_law_764 : dc_at cL_law 764 sL_law_764 := dc_n1 aL_law_763
theorem aL_law_765 : dc_at cL_law 765 sL_law_765 := dc_n1 aL_law_764
theorem aL_law_766 : dc_at cL_law 766 sL_law_766 := dc_n1 aL_law_765
theorem aL_law_767 : dc_at cL_law 767 sL_law_767 := dc_n1 aL_law_766
theorem aL_law_769 : dc_at cL_law 769 sL_law_769 := dc_n2 aL_law_767
theorem aL_law_770 : dc_at cL_law 770 sL_law_770 := dc_n1 aL_law_769
theorem aL_law_771 : dc_at cL_law 771 sL_law_771 := dc_n1 aL_law_770
theorem aL_law_772 : dc_at cL_law 772 sL_law_772 := dc_n1 aL_law_771
theorem aL_law_773 : dc_at cL_law 773 sL_law_773 := dc_n1 aL_law_772
theorem aL_law_775 : dc_at cL_law 775 sL_law_775 := dc_n2 aL_law_773
theorem aL_law_776 : dc_at cL_law 776 sL_law_776 := dc_n1 aL_law_775
theorem aL_law_777 : dc_at cL_law 777 sL_law_777 := dc_n1 aL_law_776
theorem aL_law_778 : dc_at cL_law 778 sL_law_778 := dc_n1 aL_law_777
theorem aL_law_781 : dc_at cL_law 781 sL_law_781 := dc_n3 aL_law_778
theorem aL_law_783 : dc_at cL_law 783 sL_law_783 := dc_n2 aL_law_781
theorem aL_law_786 : dc_at cL_law 786 sL_law_786 := dc_n3 aL_law_783
theorem aL_law_787 : dc_at cL_law 787 sL_law_787 := dc_n1 aL_law_786
theorem aL_law_788 : dc_at cL_law 788 sL_law_788 := dc_n1 aL_law_787
theorem aL_law_790 : dc_at cL_law 790 sL_law_790 := dc_n2 aL_law_788
theorem aL_law_791 : dc_at cL_law 791 sL_law_791 := dc_n1 aL_law_790
theorem aL_law_792 : dc_at cL_law 792 sL_law_792 := dc_n1 aL_law_791
theorem aL_law_793 : dc_at cL_law 793 sL_law_793 := dc_n1 aL_law_792
theorem aL_law_794 : dc_at cL_law 794 sL_law_794 := dc_n1 aL_law_793
theorem aL_law_796 : dc_at cL_law 796 sL_law_796 := dc_n2 aL_law_794
theorem aL_law_797 : dc_at cL_law 797 sL_law_797 := dc_n1 aL_law_796
theorem aL_law_798 : dc_at cL_law 798 sL_law_798 := dc_n1 aL_law_797
theorem aL_law_799 : dc_at cL_law 799 sL_law_799 := dc_n1 aL_law_798
theorem aL_law_800 : dc_at cL_law 800 sL_law_800 := dc_n1 aL_law_799
theorem aL_law_802 : dc_at cL_law 802 sL_law_802 := dc_n2 aL_law_800
theorem aL_law_803 : dc_at cL_law 803 sL_law_803 := dc_n1 aL_law_802
theorem aL_law_804 : dc_at cL_law 804 sL_law_804 := dc_n1 aL_law_803
theorem aL_law_805 : dc_at cL_law 805 sL_law_805 := dc_n1 aL_law_804
theorem aL_law_806 : dc_at cL_law 806 sL_law_806 := dc_n1 aL_law_805
theorem aL_law_808 : dc_at cL_law 808 sL_law_808 := dc_n2 aL_law_806
theorem aL_law_809 : dc_at cL_law 809 sL_law_809 := dc_n1 aL_law_808
theorem aL_law_810 : dc_at cL_law 810 sL_law_810 := dc_n1 aL_law_809
theorem aL_law_811 : dc_at cL_law 811 sL_law_811 := dc_n1 aL_law_810
theorem aL_law_812 : dc_at cL_law 812 sL_law_812 := dc_n1 aL_law_811
theorem aL_law_815 : dc_at cL_law 815 sL_law_815 := dc_n3 aL_law_812
theorem aL_law_817 : dc_at cL_law 817 sL_law_817 := dc_n2 aL_law_815
theorem aL_law_818 : dc_at cL_law 818 sL_law_818 := dc_n1 aL_law_817
theorem aL_law_819 : dc_at cL_law 819 sL_law_819 := dc_n1 aL_law_818
theorem aL_law_821 : dc_at cL_law 821 sL_law_821 := dc_n2 aL_law_819
theorem aL_law_822 : dc_at cL_law 822 sL_law_822 := dc_n1 aL_law_821
theorem aL_law_823 : dc_at cL_law 823 sL_law_823 := dc_n1 aL_law_822
theorem aL_law_824 : dc_at cL_law 824 sL_law_824 := dc_n1 aL_law_823
theorem aL_law_825 : dc_at cL_law 825 sL_law_825 := dc_n1 aL_law_824
theorem aL_law_827 : dc_at cL_law 827 sL_law_827 := dc_n2 aL_law_825
theorem aL_law_828 : dc_at cL_law 828 sL_law_828 := dc_n1 aL_law_827
theorem aL_law_829 : dc_at cL_law 829 sL_law_829 := dc_n1 aL_law_828
theorem aL_law_830 : dc_at cL_law 830 sL_law_830 := dc_n1 aL_law_829
theorem aL_law_831 : dc_at cL_law 831 sL_law_831 := dc_n1 aL_law_830
theorem aL_law_833 : dc_at cL_law 833 sL_law_833 := dc_n2 aL_law_831
theorem aL_law_834 : dc_at cL_law 834 sL_law_834 := dc_n1 aL_law_833
theorem aL_law_835 : dc_at cL_law 835 sL_law_835 := dc_n1 aL_law_834
theorem aL_law_836 : dc_at cL_law 836 sL_law_836 := dc_n1 aL_law_835
theorem aL_law_837 : dc_at cL_law 837 sL_law_837 := dc_n1 aL_law_836
theorem aL_law_839 : dc_at cL_law 839 sL_law_839 := dc_n2 aL_law_837
theorem aL_law_840 : dc_at cL_law 840 sL_law_840 := dc_n1 aL_law_839
theorem aL_law_841 : dc_at cL_law 841 sL_law_841 := dc_n1 aL_law_840
theorem aL_law_842 : dc_at cL_law 842 sL_law_842 := dc_n1 aL_law_841
theorem aL_law_845 : dc_at cL_law 845 sL_law_845 := dc_n3 aL_law_842
theorem aL_law_847 : dc_at cL_law 847 sL_law_847 := dc_n2 aL_law_845
theorem aL_law_850 : dc_at cL_law 850 sL_law_850 := dc_n3 aL_law_847
theorem aL_law_851 : dc_at cL_law 851 sL_law_851 := dc_n1 aL_law_850
theorem aL_law_852 : dc_at cL_law 852 sL_law_852 := dc_n1 aL_law_851
theorem aL_law_854 : dc_at cL_law 854 sL_law_854 := dc_n2 aL_law_852
theorem aL_law_855 : dc_at cL_law 855 sL_law_855 := dc_n1 aL_law_854
theorem aL_law_856 : dc_at cL_law 856 sL_law_856 := dc_n1 aL_law_855
theorem aL_law_857 : dc_at cL_law 857 sL_law_857 := dc_n1 aL_law_856
theorem aL_law_858 : dc_at cL_law 858 sL_law_858 := dc_n1 aL_law_857
theorem aL_law_860 : dc_at cL_law 860 sL_law_860 := dc_n2 aL_law_858
theorem aL_law_861 : dc_at cL_law 861 sL_law_861 := dc_n1 aL_law_860
theorem aL_law_862 : dc_at cL_law 862 sL_law_862 := dc_n1 aL_law_861
theorem aL_law_863 : dc_at cL_law 863 sL_law_863 := dc_n1 aL_law_862
theorem aL_law_864 : dc_at cL_law 864 sL_law_864 := dc_n1 aL_law_863
theorem aL_law_867 : dc_at cL_law 867 sL_law_867 := dc_n3 aL_law_864
theorem aL_law_869 : dc_at cL_law 869 sL_law_869 := dc_n2 aL_law_867
theorem aL_law_870 : dc_at cL_law 870 sL_law_870 := dc_n1 aL_law_869
theorem aL_law_871 : dc_at cL_law 871 sL_law_871 := dc_n1 aL_law_870
theorem aL_law_873 : dc_at cL_law 873 sL_law_873 := dc_n2 aL_law_871
theorem aL_law_874 : dc_at cL_law 874 sL_law_874 := dc_n1 aL_law_873
theorem aL_law_875 : dc_at cL_law 875 sL_law_875 := dc_n1 aL_law_874
theorem aL_law_876 : dc_at cL_law 876 sL_law_876 := dc_n1 aL_law_875
theorem aL_law_877 : dc_at cL_law 877 sL_law_877 := dc_n1 aL_law_876
theorem aL_law_879 : dc_at cL_law 879 sL_law_879 := dc_n2 aL_law_877
theorem aL_law_880 : dc_at cL_law 880 sL_law_880 := dc_n1 aL_law_879
theorem aL_law_881 : dc_at cL_law 881 sL_law_881 := dc_n1 aL_law_880
theorem aL_law_882 : dc_at cL_law 882 sL_law_882 := dc_n1 aL_law_881
theorem aL_law_885 : dc_at cL_law 885 sL_law_885 := dc_n3 aL_law_882
theorem aL_law_887 : dc_at cL_law 887 sL_law_887 := dc_n2 aL_law_885
theorem aL_law_890 : dc_at cL_law 890 sL_law_890 := dc_n3 aL_law_887
theorem aL_law_891 : dc_at cL_law 891 sL_law_891 := dc_n1 aL_law_890
theorem aL_law_892 : dc_at cL_law 892 sL_law_892 := dc_n1 aL_law_891
theorem aL_law_894 : dc_at cL_law 894 sL_law_894 := dc_n2 aL_law_892
theorem aL_law_895 : dc_at cL_law 895 sL_law_895 := dc_n1 aL_law_894
theorem aL_law_896 : dc_at cL_law 896 sL_law_896 := dc_n1 aL_law_895
theorem aL_law_897 : dc_at cL_law 897 sL_law_897 := dc_n1 aL_law_896
theorem aL_law_898 : dc_at cL_law 898 sL_law_898 := dc_n1 aL_law_897
theorem aL_law_900 : dc_at cL_law 900 sL_law_900 := dc_n2 aL_law_898
theorem aL_law_901 : dc_at cL_law 901 sL_law_901 := dc_n1 aL_law_900
theorem aL_law_902 : dc_at cL_law 902 sL_law_902 := dc_n1 aL_law_901
theorem aL_law_903 : dc_at cL_law 903 sL_law_903 := dc_n1 aL_law_902
theorem aL_law_904 : dc_at cL_law 904 sL_law_904 := dc_n1 aL_law_903
theorem aL_law_906 : dc_at cL_law 906 sL_law_906 := dc_n2 aL_law_904
theorem aL_law_907 : dc_at cL_law 907 sL_law_907 := dc_n1 aL_law_906
theorem aL_law_908 : dc_at cL_law 908 sL_law_908 := dc_n1 aL_law_907
theorem aL_law_909 : dc_at cL_law 909 sL_law_909 := dc_n1 aL_law_908
theorem aL_law_910 : dc_at cL_law 910 sL_law_910 := dc_n1 aL_law_909
theorem aL_law_913 : dc_at cL_law 913 sL_law_913 := dc_n3 aL_law_910
theorem aL_law_915 : dc_at cL_law 915 sL_law_915 := dc_n2 aL_law_913
theorem aL_law_916 : dc_at cL_law 916 sL_law_916 := dc_n1 aL_law_915
theorem aL_law_917 : dc_at cL_law 917 sL_law_917 := dc_n1 aL_law_916
theorem aL_law_919 : dc_at cL_law 919 sL_law_919 := dc_n2 aL_law_917
theorem aL_law_920 : dc_at cL_law 920 sL_law_920 := dc_n1 aL_law_919
theorem aL_law_921 : dc_at cL_law 921 sL_law_921 := dc_n1 aL_law_920
theorem aL_law_922 : dc_at cL_law 922 sL_law_922 := dc_n1 aL_law_921
theorem aL_law_923 : dc_at cL_law 923 sL_law_923 := dc_n1 aL_law_922
theorem aL_law_925 : dc_at cL_law 925 sL_law_925 := dc_n2 aL_law_923
theorem aL_law_926 : dc_at cL_law 926 sL_law_926 := dc_n1 aL_law_925
theorem aL_law_927 : dc_at cL_law 927 sL_law_927 := dc_n1 aL_law_926
theorem aL_law_928 : dc_at cL_law 928 sL_law_928 := dc_n1 aL_law_927
theorem aL_law_929 : dc_at cL_law 929 sL_law_929 := dc_n1 aL_law_928
theorem aL_law_931 : dc_at cL_law 931 sL_law_931 := dc_n2 aL_law_929
theorem aL_law_932 : dc_at cL_law 932 sL_law_932 := dc_n1 aL_law_931
theorem aL_law_933 : dc_at cL_law 933 sL_law_933 := dc_n1 aL_law_932
theorem aL_law_934 : dc_at cL_law 934 sL_law_934 := dc_n1 aL_law_933
theorem aL_law_937 : dc_at cL_law 937 sL_law_937 := dc_n3 aL_law_934
theorem aL_law_939 : dc_at cL_law 939 sL_law_939 := dc_n2 aL_law_937
theorem aL_law_942 : dc_at cL_law 942 sL_law_942 := dc_n3 aL_law_939
theorem aL_law_943 : dc_at cL_law 943 sL_law_943 := dc_n1 aL_law_942
theorem aL_law_944 : dc_at cL_law 944 sL_law_944 := dc_n1 aL_law_943
theorem aL_law_946 : dc_at cL_law 946 sL_law_946 := dc_n2 aL_law_944
theorem aL_law_947 : dc_at cL_law 947 sL_law_947 := dc_n1 aL_law_946
theorem aL_law_948 : dc_at cL_law 948 sL_law_948 := dc_n1 aL_law_947
theorem aL_law_949 : dc_at cL_law 949 sL_law_949 := dc_n1 aL_law_948
theorem aL_law_950 : dc_at cL_law 950 sL_law_950 := dc_n1 aL_law_949
theorem aL_law_952 : dc_at cL_law 952 sL_law_952 := dc_n2 aL_law_950
theorem aL_law_953 : dc_at cL_law 953 sL_law_953 := dc_n1 aL_law_952
theorem aL_law_954 : dc_at cL_law 954 sL_law_954 := dc_n1 aL_law_953
theorem aL_law_955 : dc_at cL_law 955 sL_law_955 := dc_n1 aL_law_954
theorem aL_law_956 : dc_at cL_law 956 sL_law_956 := dc_n1 aL_law_955
theorem aL_law_959 : dc_at cL_law 959 sL_law_959 := dc_n3 aL_law_956
theorem aL_law_961 : dc_at cL_law 961 sL_law_961 := dc_n2 aL_law_959
theorem aL_law_962 : dc_at cL_law 962 sL_law_962 := dc_n1 aL_law_961
theorem aL_law_963 : dc_at cL_law 963 sL_law_963 := dc_n1 aL_law_962
theorem aL_law_965 : dc_at cL_law 965 sL_law_965 := dc_n2 aL_law_963
theorem aL_law_966 : dc_at cL_law 966 sL_law_966 := dc_n1 aL_law_965
theorem aL_law_967 : dc_at cL_law 967 sL_law_967 := dc_n1 aL_law_966
theorem aL_law_968 : dc_at cL_law 968 sL_law_968 := dc_n1 aL_law_967
theorem aL_law_969 : dc_at cL_law 969 sL_law_969 := dc_n1 aL_law_968
theorem aL_law_971 : dc_at cL_law 971 sL_law_971 := dc_n2 aL_law_969
theorem aL_law_972 : dc_at cL_law 972 sL_law_972 := dc_n1 aL_law_971
theorem aL_law_973 : dc_at cL_law 973 sL_law_973 := dc_n1 aL_law_972
theorem aL_law_974 : dc_at cL_law 974 sL_law_974 := dc_n1 aL_law_973
theorem aL_law_977 : dc_at cL_law 977 sL_law_977 := dc_n3 aL_law_974
theorem aL_law_979 : dc_at cL_law 979 sL_law_979 := dc_n2 aL_law_977
theorem aL_law_982 : dc_at cL_law 982 sL_law_982 := dc_n3 aL_law_979
theorem aL_law_983 : dc_at cL_law 983 sL_law_983 := dc_n1 aL_law_982
theorem aL_law_984 : dc_at cL_law 984 sL_law_984 := dc_n1 aL_law_983
theorem aL_law_986 : dc_at cL_law 986 sL_law_986 := dc_n2 aL_law_984
theorem aL_law_987 : dc_at cL_law 987 sL_law_987 := dc_n1 aL_law_986
theorem aL_law_988 : dc_at cL_law 988 sL_law_988 := dc_n1 aL_law_987
theorem aL_law_989 : dc_at cL_law 989 sL_law_989 := dc_n1 aL_law_988
theorem aL_law_990 : dc_at cL_law 990 sL_law_990 := dc_n1 aL_law_989
theorem aL_law_992 : dc_at cL_law 992 sL_law_992 := dc_n2 aL_law_990
theorem aL_law_993 : dc_at cL_law 993 sL_law_993 := dc_n1 aL_law_992
theorem aL_law_994 : dc_at cL_law 994 sL_law_994 := dc_n1 aL_law_993
theorem aL_law_995 : dc_at cL_law 995 sL_law_995 := dc_n1 aL_law_994
theorem aL_law_996 : dc_at cL_law 996 sL_law_996 := dc_n1 aL_law_995
theorem aL_law_998 : dc_at cL_law 998 sL_law_998 := dc_n2 aL_law_996
theorem aL_law_999 : dc_at cL_law 999 sL_law_999 := dc_n1 aL_law_998
theorem aL_law_1000 : dc_at cL_law 1000 sL_law_1000 := dc_n1 aL_law_999
theorem aL_law_1001 : dc_at cL_law 1001 sL_law_1001 := dc_n1 aL_law_1000
theorem aL_law_1002 : dc_at cL_law 1002 sL_law_1002 := dc_n1 aL_law_1001
theorem aL_law_1005 : dc_at cL_law 1005 sL_law_1005 := dc_n3 aL_law_1002
theorem aL_law_1007 : dc_at cL_law 1007 sL_law_1007 := dc_n2 aL_law_1005
theorem aL_law_1008 : dc_at cL_law 1008 sL_law_1008 := dc_n1 aL_law_1007
theorem aL_law_1009 : dc_at cL_law 1009 sL_law_1009 := dc_n1 aL_law_1008
theorem aL_law_1011 : dc_at cL_law 1011 sL_law_1011 := dc_n2 aL_law_1009
theorem aL_law_1012 : dc_at cL_law 1012 sL_law_1012 := dc_n1 aL_law_1011
theorem aL_law_1013 : dc_at cL_law 1013 sL_law_1013 := dc_n1 aL_law_1012
theorem aL_law_1014 : dc_at cL_law 1014 sL_law_1014 := dc_n1 aL_law_1013
theorem aL_law_1015 : dc_at cL_law 1015 sL_law_1015 := dc_n1 aL_law_1014
theorem aL_law_1017 : dc_at cL_law 1017 sL_law_1017 := dc_n2 aL_law_1015
theorem aL_law_1018 : dc_at cL_law 1018 sL_law_1018 := dc_n1 aL_law_1017
theorem aL_law_1019 : dc_at cL_law 1019 sL_law_1019 := dc_n1 aL_law_1018
theorem aL_law_1020 : dc_at cL_law 1020 sL_law_1020 := dc_n1 aL_law_1019
theorem aL_law_1021 : dc_at cL_law 1021 sL_law_1021 := dc_n1 aL_law_1020
theorem aL_law_1023 : dc_at cL_law 1023 sL_law_1023 := dc_n2 aL_law_1021
theorem aL_law_1024 : dc_at cL_law 1024 sL_law_1024 := dc_n1 aL_law_1023
theorem aL_law_1025 : dc_at cL_law 1025 sL_law_1025 := dc_n1 aL_law_1024
theorem aL_law_1026 : dc_at cL_law 1026 sL_law_1026 := dc_n1 aL_law_1025
theorem aL_law_1029 : dc_at cL_law 1029 sL_law_1029 := dc_n3 aL_law_1026
theorem aL_law_1031 : dc_at cL_law 1031 sL_law_1031 := dc_n2 aL_law_1029
theorem aL_law_1034 : dc_at cL_law 1034 sL_law_1034 := dc_n3 aL_law_1031
theorem aL_law_1035 : dc_at cL_law 1035 sL_law_1035 := dc_n1 aL_law_1034
theorem aL_law_1036 : dc_at cL_law 1036 sL_law_1036 := dc_n1 aL_law_1035
theorem aL_law_1038 : dc_at cL_law 1038 sL_law_1038 := dc_n2 aL_law_1036
theorem aL_law_1039 : dc_at cL_law 1039 sL_law_1039 := dc_n1 aL_law_1038
theorem aL_law_1040 : dc_at cL_law 1040 sL_law_1040 := dc_n1 aL_law_1039
theorem aL_law_1041 : dc_at cL_law 1041 sL_law_1041 := dc_n1 aL_law_1040
theorem aL_law_1042 : dc_at cL_law 1042 sL_law_1042 := dc_n1 aL_law_1041
theorem aL_law_1044 : dc_at cL_law 1044 sL_law_1044 := dc_n2 aL_law_1042
theorem aL_law_1045 : dc_at cL_law 1045 sL_law_1045 := dc_n1 aL_law_1044
theorem aL_law_1046 : dc_at cL_law 1046 sL_law_1046 := dc_n1 aL_law_1045
theorem aL_law_1047 : dc_at cL_law 1047 sL_law_1047 := dc_n1 aL_law_1046
theorem aL_law_1048 : dc_at cL_law 1048 sL_law_1048 := dc_n1 aL_law_1047
theorem aL_law_1050 : dc_at cL_law 1050 sL_law_1050 := dc_n2 aL_law_1048
theorem aL_law_1051 : dc_at cL_law 1051 sL_law_1051 := dc_n1 aL_law_1050
theorem aL_law_1052 : dc_at cL_law 1052 sL_law_1052 := dc_n1 aL_law_1051
theorem aL_law_1053 : dc_at cL_law 1053 sL_law_1053 := dc_n1 aL_law_1052
theorem aL_law_1054 : dc_at cL_law 1054 sL_law_1054 := dc_n1 aL_law_1053
theorem aL_law_1056 : dc_at cL_law 1056 sL_law_1056 := dc_n2 aL_law_1054
theorem aL_law_1057 : dc_at cL_law 1057 sL_law_1057 := dc_n1 aL_law_1056
theorem aL_law_1058 : dc_at cL_law 1058 sL_law_1058 := dc_n1 aL_law_1057
theorem aL_law_1059 : dc_at cL_law 1059 sL_law_1059 := dc_n1 aL_law_1058
theorem aL_law_1060 : dc_at cL_law 1060 sL_law_1060 := dc_n1 aL_law_1059
theorem aL_law_1063 : dc_at cL_law 1063 sL_law_1063 := dc_n3 aL_law_1060
theorem aL_law_1065 : dc_at cL_law 1065 sL_law_1065 := dc_n2 aL_law_1063
theorem aL_law_1066 : dc_at cL_law 1066 sL_law_1066 := dc_n1 aL_law_1065
theorem aL_law_1067 : dc_at cL_law 1067 sL_law_1067 := dc_n1 aL_law_1066
theorem aL_law_1069 : dc_at cL_law 1069 sL_law_1069 := dc_n2 aL_law_1067
theorem aL_law_1070 : dc_at cL_law 1070 sL_law_1070 := dc_n1 aL_law_1069
theorem aL_law_1071 : dc_at cL_law 1071 sL_law_1071 := dc_n1 aL_law_1070
theorem aL_law_1072 : dc_at cL_law 1072 sL_law_1072 := dc_n1 aL_law_1071
theorem aL_law_1073 : dc_at cL_law 1073 sL_law_1073 := dc_n1 aL_law_1072
theorem aL_law_1075 : dc_at cL_law 1075 sL_law_1075 := dc_n2 aL_law_1073
theorem aL_law_1076 : dc_at cL_law 1076 sL_law_1076 := dc_n1 aL_law_1075
theorem aL_law_1077 : dc_at cL_law 1077 sL_law_1077 := dc_n1 aL_law_1076
theorem aL_law_1078 : dc_at cL_law 1078 sL_law_1078 := dc_n1 aL_law_1077
theorem aL_law_1079 : dc_at cL_law 1079 sL_law_1079 := dc_n1 aL_law_1078
theorem aL_law_1081 : dc_at cL_law 1081 sL_law_1081 := dc_n2 aL_law_1079
theorem aL_law_1082 : dc_at cL_law 1082 sL_law_1082 := dc_n1 aL_law_1081
theorem aL_law_1083 : dc_at cL_law 1083 sL_law_1083 := dc_n1 aL_law_1082
theorem aL_law_1084 : dc_at cL_law 1084 sL_law_1084 := dc_n1 aL_law_1083
theorem aL_law_1085 : dc_at cL_law 1085 sL_law_1085 := dc_n1 aL_law_1084
theorem aL_law_1087 : dc_at cL_law 1087 sL_law_1087 := dc_n2 aL_law_1085
theorem aL_law_1088 : dc_at cL_law 1088 sL_law_1088 := dc_n1 aL_law_1087
theorem aL_law_1089 : dc_at cL_law 1089 sL_law_1089 := dc_n1 aL_law_1088
theorem aL_law_1090 : dc_at cL_law 1090 sL_law_1090 := dc_n1 aL_law_1089
theorem aL_law_1093 : dc_at cL_law 1093 sL_law_1093 := dc_n3 aL_law_1090
theorem aL_law_1095 : dc_at cL_law 1095 sL_law_1095 := dc_n2 aL_law_1093
theorem aL_law_1098 : dc_at cL_law 1098 sL_law_1098 := dc_n3 aL_law_1095
theorem aL_law_1099 : dc_at cL_law 1099 sL_law_1099 := dc_n1 aL_law_1098
theorem aL_law_1100 : dc_at cL_law 1100 sL_law_1100 := dc_n1 aL_law_1099
theorem aL_law_1102 : dc_at cL_law 1102 sL_law_1102 := dc_n2 aL_law_1100
theorem aL_law_1103 : dc_at cL_law 1103 sL_law_1103 := dc_n1 aL_law_1102
theorem aL_law_1104 : dc_at cL_law 1104 sL_law_1104 := dc_n1 aL_law_1103
theorem aL_law_1105 : dc_at cL_law 1105 sL_law_1105 := dc_n1 aL_law_1104
theorem aL_law_1106 : dc_at cL_law 1106 sL_law_1106 := dc_n1 aL_law_1105
theorem aL_law_1108 : dc_at cL_law 1108 sL_law_1108 := dc_n2 aL_law_1106
theorem aL_law_1109 : dc_at cL_law 1109 sL_law_1109 := dc_n1 aL_law_1108
theorem aL_law_1110 : dc_at cL_law 1110 sL_law_1110 := dc_n1 aL_law_1109
theorem aL_law_1111 : dc_at cL_law 1111 sL_law_1111 := dc_n1 aL_law_1110
theorem aL_law_1112 : dc_at cL_law 1112 sL_law_1112 := dc_n1 aL_law_1111
theorem aL_law_1114 : dc_at cL_law 1114 sL_law_1114 := dc_n2 aL_law_1112
theorem aL_law_1115 : dc_at cL_law 1115 sL_law_1115 := dc_n1 aL_law_1114
theorem aL_law_1116 : dc_at cL_law 1116 sL_law_1116 := dc_n1 aL_law_1115
theorem aL_law_1117 : dc_at cL_law 1117 sL_law_1117 := dc_n1 aL_law_1116
theorem aL_law_1118 : dc_at cL_law 1118 sL_law_1118 := dc_n1 aL_law_1117
theorem aL_law_1120 : dc_at cL_law 1120 sL_law_1120 := dc_n2 aL_law_1118
theorem aL_law_1121 : dc_at cL_law 1121 sL_law_1121 := dc_n1 aL_law_1120
theorem aL_law_1122 : dc_at cL_law 1122 sL_law_1122 := dc_n1 aL_law_1121
theorem aL_law_1123 : dc_at cL_law 1123 sL_law_1123 := dc_n1 aL_law_1122
theorem aL_law_1124 : dc_at cL_law 1124 sL_law_1124 := dc_n1 aL_law_1123
theorem aL_law_1127 : dc_at cL_law 1127 sL_law_1127 := dc_n3 aL_law_1124
theorem aL_law_1129 : dc_at cL_law 1129 sL_law_1129 := dc_n2 aL_law_1127
theorem aL_law_1130 : dc_at cL_law 1130 sL_law_1130 := dc_n1 aL_law_1129
theorem aL_law_1131 : dc_at cL_law 1131 sL_law_1131 := dc_n1 aL_law_1130
theorem aL_law_1133 : dc_at cL_law 1133 sL_law_1133 := dc_n2 aL_law_1131
theorem aL_law_1134 : dc_at cL_law 1134 sL_law_1134 := dc_n1 aL_law_1133
theorem aL_law_1135 : dc_at cL_law 1135 sL_law_1135 := dc_n1 aL_law_1134
theorem aL_law_1136 : dc_at cL_law 1136 sL_law_1136 := dc_n1 aL_law_1135
theorem aL_law_1137 : dc_at cL_law 1137 sL_law_1137 := dc_n1 aL_law_1136
theorem aL_law_1139 : dc_at cL_law 1139 sL_law_1139 := dc_n2 aL_law_1137
theorem aL_law_1140 : dc_at cL_law 1140 sL_law_1140 := dc_n1 aL_law_1139
theorem aL_law_1141 : dc_at cL_law 1141 sL_law_1141 := dc_n1 aL_law_1140
theorem aL_law_1142 : dc_at cL_law 1142 sL_law_1142 := dc_n1 aL_law_1141
theorem aL_law_1143 : dc_at cL_law 1143 sL_law_1143 := dc_n1 aL_law_1142
theorem aL_law_1145 : dc_at cL_law 1145 sL_law_1145 := dc_n2 aL_law_1143
theorem aL_law_1146 : dc_at cL_law 1146 sL_law_1146 := dc_n1 aL_law_1145
theorem aL_law_1147 : dc_at cL_law 1147 sL_law_1147 := dc_n1 aL_law_1146
theorem aL_law_1148 : dc_at cL_law 1148 sL_law_1148 := dc_n1 aL_law_1147
theorem aL_law_1149 : dc_at cL_law 1149 sL_law_1149 := dc_n1 aL_law_1148
theorem aL_law_1151 : dc_at cL_law 1151 sL_law_1151 := dc_n2 aL_law_1149
theorem aL_law_1152 : dc_at cL_law 1152 sL_law_1152 := dc_n1 aL_law_1151
theorem aL_law_1153 : dc_at cL_law 1153 sL_law_1153 := dc_n1 aL_law_1152
theorem aL_law_1154 : dc_at cL_law 1154 sL_law_1154 := dc_n1 aL_law_1153
theorem aL_law_1157 : dc_at cL_law 1157 sL_law_1157 := dc_n3 aL_law_1154
theorem aL_law_1159 : dc_at cL_law 1159 sL_law_1159 := dc_n2 aL_law_1157
theorem aL_law_1162 : dc_at cL_law 1162 sL_law_1162 := dc_n3 aL_law_1159
theorem aL_law_1163 : dc_at cL_law 1163 sL_law_1163 := dc_n1 aL_law_1162
theorem aL_law_1164 : dc_at cL_law 1164 sL_law_1164 := dc_n1 aL_law_1163
theorem aL_law_1166 : dc_at cL_law 1166 sL_law_1166 := dc_n2 aL_law_1164
theorem aL_law_1167 : dc_at cL_law 1167 sL_law_1167 := dc_n1 aL_law_1166
theorem aL_law_1168 : dc_at cL_law 1168 sL_law_1168 := dc_n1 aL_law_1167
theorem aL_law_1169 : dc_at cL_law 1169 sL_law_1169 := dc_n1 aL_law_1168
theorem aL_law_1170 : dc_at cL_law 1170 sL_law_1170 := dc_n1 aL_law_1169
theorem aL_law_1172 : dc_at cL_law 1172 sL_law_1172 := dc_n2 aL_law_1170
theorem aL_law_1173 : dc_at cL_law 1173 sL_law_1173 := dc_n1 aL_law_1172
theorem aL_law_1174 : dc_at cL_law 1174 sL_law_1174 := dc_n1 aL_law_1173
theorem aL_law_1175 : dc_at cL_law 1175 sL_law_1175 := dc_n1 aL_law_1174
theorem aL_law_1176 : dc_at cL_law 1176 sL_law_1176 := dc_n1 aL_law_1175
theorem aL_law_1178 : dc_at cL_law 1178 sL_law_1178 := dc_n2 aL_law_1176
theorem aL_law_1179 : dc_at cL_law 1179 sL_law_1179 := dc_n1 aL_law_1178
theorem aL_law_1180 : dc_at cL_law 1180 sL_law_1180 := dc_n1 aL_law_1179
theorem aL_law_1181 : dc_at cL_law 1181 sL_law_1181 := dc_n1 aL_law_1180
theorem aL_law_1182 : dc_at cL_law 1182 sL_law_1182 := dc_n1 aL_law_1181
theorem aL_law_1185 : dc_at cL_law 1185 sL_law_1185 := dc_n3 aL_law_1182
theorem aL_law_1187 : dc_at cL_law 1187 sL_law_1187 := dc_n2 aL_law_1185
theorem aL_law_1188 : dc_at cL_law 1188 sL_law_1188 := dc_n1 aL_law_1187
theorem aL_law_1189 : dc_at cL_law 1189 sL_law_1189 := dc_n1 aL_law_1188
theorem aL_law_1191 : dc_at cL_law 1191 sL_law_1191 := dc_n2 aL_law_1189
theorem aL_law_1192 : dc_at cL_law 1192 sL_law_1192 := dc_n1 aL_law_1191
theorem aL_law_1193 : dc_at cL_law 1193 sL_law_1193 := dc_n1 aL_law_1192
theorem aL_law_1194 : dc_at cL_law 1194 sL_law_1194 := dc_n1 aL_law_1193
theorem aL_law_1195 : dc_at cL_law 1195 sL_law_1195 := dc_n1 aL_law_1194
theorem aL_law_1197 : dc_at cL_law 1197 sL_law_1197 := dc_n2 aL_law_1195
theorem aL_law_1198 : dc_at cL_law 1198 sL_law_1198 := dc_n1 aL_law_1197
theorem aL_law_1199 : dc_at cL_law 1199 sL_law_1199 := dc_n1 aL_law_1198
theorem aL_law_1200 : dc_at cL_law 1200 sL_law_1200 := dc_n1 aL_law_1199
theorem aL_law_1201 : dc_at cL_law 1201 sL_law_1201 := dc_n1 aL_law_1200
theorem aL_law_1203 : dc_at cL_law 1203 sL_law_1203 := dc_n2 aL_law_1201
theorem aL_law_1204 : dc_at cL_law 1204 sL_law_1204 := dc_n1 aL_law_1203
theorem aL_law_1205 : dc_at cL_law 1205 sL_law_1205 := dc_n1 aL_law_1204
theorem aL_law_1206 : dc_at cL_law 1206 sL_law_1206 := dc_n1 aL_law_1205
theorem aL_law_1209 : dc_at cL_law 1209 sL_law_1209 := dc_n3 aL_law_1206
theorem aL_law_1211 : dc_at cL_law 1211 sL_law_1211 := dc_n2 aL_law_1209
theorem aL_law_1214 : dc_at cL_law 1214 sL_law_1214 := dc_n3 aL_law_1211
theorem aL_law_1215 : dc_at cL_law 1215 sL_law_1215 := dc_n1 aL_law_1214
theorem aL_law_1216 : dc_at cL_law 1216 sL_law_1216 := dc_n1 aL_law_1215
theorem aL_law_1218 : dc_at cL_law 1218 sL_law_1218 := dc_n2 aL_law_1216
theorem aL_law_1219 : dc_at cL_law 1219 sL_law_1219 := dc_n1 aL_law_1218
theorem aL_law_1220 : dc_at cL_law 1220 sL_law_1220 := dc_n1 aL_law_1219
theorem aL_law_1221 : dc_at cL_law 1221 sL_law_1221 := dc_n1 aL_law_1220
theorem aL_law_1222 : dc_at cL_law 1222 sL_law_1222 := dc_n1 aL_law_1221
theorem aL_law_1224 : dc_at cL_law 1224 sL_law_1224 := dc_n2 aL_law_1222
theorem aL_law_1225 : dc_at cL_law 1225 sL_law_1225 := dc_n1 aL_law_1224
theorem aL_law_1226 : dc_at cL_law 1226 sL_law_1226 := dc_n1 aL_law_1225
theorem aL_law_1227 : dc_at cL_law 1227 sL_law_1227 := dc_n1 aL_law_1226
theorem aL_law_1228 : dc_at cL_law 1228 sL_law_1228 := dc_n1 aL_law_1227
theorem aL_law_1231 : dc_at cL_law 1231 sL_law_1231 := dc_n3 aL_law_1228
theorem aL_law_1233 : dc_at cL_law 1233 sL_law_1233 := dc_n2 aL_law_1231
theorem aL_law_1234 : dc_at cL_law 1234 sL_law_1234 := dc_n1 aL_law_1233
theorem aL_law_1235 : dc_at cL_law 1235 sL_law_1235 := dc_n1 aL_law_1234
theorem aL_law_1237 : dc_at cL_law 1237 sL_law_1237 := dc_n2 aL_law_1235
theorem aL_law_1238 : dc_at cL_law 1238 sL_law_1238 := dc_n1 aL_law_1237
theorem aL_law_1239 : dc_at cL_law 1239 sL_law_1239 := dc_n1 aL_law_1238
theorem aL_law_1240 : dc_at cL_law 1240 sL_law_1240 := dc_n1 aL_law_1239
theorem aL_law_1241 : dc_at cL_law 1241 sL_law_1241 := dc_n1 aL_law_1240
theorem aL_law_1243 : dc_at cL_law 1243 sL_law_1243 := dc_n2 aL_law_1241
theorem aL_law_1244 : dc_at cL_law 1244 sL_law_1244 := dc_n1 aL_law_1243
theorem aL_law_1245 : dc_at cL_law 1245 sL_law_1245 := dc_n1 aL_law_1244
theorem aL_law_1246 : dc_at cL_law 1246 sL_law_1246 := dc_n1 aL_law_1245
theorem aL_law_1249 : dc_at cL_law 1249 sL_law_1249 := dc_n3 aL_law_1246
theorem aL_law_1251 : dc_at cL_law 1251 sL_law_1251 := dc_n2 aL_law_1249
theorem aL_law_1254 : dc_at cL_law 1254 sL_law_1254 := dc_n3 aL_law_1251
theorem aL_law_1255 : dc_at cL_law 1255 sL_law_1255 := dc_n1 aL_law_1254
theorem aL_law_1256 : dc_at cL_law 1256 sL_law_1256 := dc_n1 aL_law_1255
theorem aL_law_1258 : dc_at cL_law 1258 sL_law_1258 := dc_n2 aL_law_1256
theorem aL_law_1259 : dc_at cL_law 1259 sL_law_1259 := dc_n1 aL_law_1258
theorem aL_law_1260 : dc_at cL_law 1260 sL_law_1260 := dc_n1 aL_law_1259
theorem aL_law_1261 : dc_at cL_law 1261 sL_law_1261 := dc_n1 aL_law_1260
theorem aL_law_1262 : dc_at cL_law 1262 sL_law_1262 := dc_n1 aL_law_1261
theorem aL_law_1264 : dc_at cL_law 1264 sL_law_1264 := dc_n2 aL_law_1262
theorem aL_law_1265 : dc_at cL_law 1265 sL_law_1265 := dc_n1 aL_law_1264
theorem aL_law_1266 : dc_at cL_law 1266 sL_law_1266 := dc_n1 aL_law_1265
theorem aL_law_1267 : dc_at cL_law 1267 sL_law_1267 := dc_n1 aL_law_1266
theorem aL_law_1268 : dc_at cL_law 1268 sL_law_1268 := dc_n1 aL_law_1267
theorem aL_law_1270 : dc_at cL_law 1270 sL_law_1270 := dc_n2 aL_law_1268
theorem aL_law_1271 : dc_at cL_law 1271 sL_law_1271 := dc_n1 aL_law_1270
theorem aL_law_1272 : dc_at cL_law 1272 sL_law_1272 := dc_n1 aL_law_1271
theorem aL_law_1273 : dc_at cL_law 1273 sL_law_1273 := dc_n1 aL_law_1272
theorem aL_law_1274 : dc_at cL_law 1274 sL_law_1274 := dc_n1 aL_law_1273
theorem aL_law_1276 : dc_at cL_law 1276 sL_law_1276 := dc_n2 aL_law_1274
theorem aL_law_1277 : dc_at cL_law 1277 sL_law_1277 := dc_n1 aL_law_1276
theorem aL_law_1278 : dc_at cL_law 1278 sL_law_1278 := dc_n1 aL_law_1277
theorem aL_law_1279 : dc_at cL_law 1279 sL_law_1279 := dc_n1 aL_law_1278
theorem aL_law_1282 : dc_at cL_law 1282 sL_law_1282 := dc_n3 aL_law_1279
theorem aL_law_1284 : dc_at cL_law 1284 sL_law_1284 := dc_n2 aL_law_1282
theorem aL_law_1285 : dc_at cL_law 1285 sL_law_1285 := dc_n1 aL_law_1284
theorem aL_law_1286 : dc_at cL_law 1286 sL_law_1286 := dc_n1 aL_law_1285
theorem aL_law_1288 : dc_at cL_law 1288 sL_law_1288 := dc_n2 aL_law_1286
theorem aL_law_1289 : dc_at cL_law 1289 sL_law_1289 := dc_n1 aL_law_1288
theorem aL_law_1290 : dc_at cL_law 1290 sL_law_1290 := dc_n1 aL_law_1289
theorem aL_law_1291 : dc_at cL_law 1291 sL_law_1291 := dc_n1 aL_law_1290
theorem aL_law_1292 : dc_at cL_law 1292 sL_law_1292 := dc_n1 aL_law_1291
theorem aL_law_1294 : dc_at cL_law 1294 sL_law_1294 := dc_n2 aL_law_1292
theorem aL_law_1295 : dc_at cL_law 1295 sL_law_1295 := dc_n1 aL_law_1294
theorem aL_law_1296 : dc_at cL_law 1296 sL_law_1296 := dc_n1 aL_law_1295
theorem aL_law_1297 : dc_at cL_law 1297 sL_law_1297 := dc_n1 aL_law_1296
theorem aL_law_1298 : dc_at cL_law 1298 sL_law_1298 := dc_n1 aL_law_1297
theorem aL_law_1300 : dc_at cL_law 1300 sL_law_1300 := dc_n2 aL_law_1298
theorem aL_law_1301 : dc_at cL_law 1301 sL_law_1301 := dc_n1 aL_law_1300
theorem aL_law_1302 : dc_at cL_law 1302 sL_law_1302 := dc_n1 aL_law_1301
theorem aL_law_1303 : dc_at cL_law 1303 sL_law_1303 := dc_n1 aL_law_1302
theorem aL_law_1304 : dc_at cL_law 1304 sL_law_1304 := dc_n1 aL_law_1303
theorem aL_law_1306 : dc_at cL_law 1306 sL_law_1306 := dc_n2 aL_law_1304
theorem aL_law_1307 : dc_at cL_law 1307 sL_law_1307 := dc_n1 aL_law_1306
theorem aL_law_1308 : dc_at cL_law 1308 sL_law_1308 := dc_n1 aL_law_1307
theorem aL_law_1309 : dc_at cL_law 1309 sL_law_1309 := dc_n1 aL_law_1308
theorem aL_law_1312 : dc_at cL_law 1312 sL_law_1312 := dc_n3 aL_law_1309
theorem aL_law_1315 : dc_at cL_law 1315 sL_law_1315 := dc_n3 aL_law_1312
theorem aL_law_1316 : dc_at cL_law 1316 sL_law_1316 := dc_n1 aL_law_1315
theorem aL_law_1317 : dc_at cL_law 1317 sL_law_1317 := dc_n1 aL_law_1316
theorem aL_law_1319 : dc_at cL_law 1319 sL_law_1319 := dc_n2 aL_law_1317
theorem aL_law_1320 : dc_at cL_law 1320 sL_law_1320 := dc_n1 aL_law_1319
theorem aL_law_1321 : dc_at cL_law 1321 sL_law_1321 := dc_n1 aL_law_1320
theorem aL_law_1322 : dc_at cL_law 1322 sL_law_1322 := dc_n1 aL_law_1321
theorem aL_law_1323 : dc_at cL_law 1323 sL_law_1323 := dc_n1 aL_law_1322
theorem aL_law_1326 : dc_at cL_law 1326 sL_law_1326 := dc_n3 aL_law_1323
theorem aL_law_1328 : dc_at cL_law 1328 sL_law_1328 := dc_n2 aL_law_1326
theorem aL_law_1329 : dc_at cL_law 1329 sL_law_1329 := dc_n1 aL_law_1328
theorem aL_law_1330 : dc_at cL_law 1330 sL_law_1330 := dc_n1 aL_law_1329
theorem aL_law_1332 : dc_at cL_law 1332 sL_law_1332 := dc_n2 aL_law_1330
theorem aL_law_1333 : dc_at cL_law 1333 sL_law_1333 := dc_n1 aL_law_1332
theorem aL_law_1334 : dc_at cL_law 1334 sL_law_1334 := dc_n1 aL_law_1333
theorem aL_law_1335 : dc_at cL_law 1335 sL_law_1335 := dc_n1 aL_law_1334
theorem aL_law_1338 : dc_at cL_law 1338 sL_law_1338 := dc_n3 aL_law_1335
theorem aL_law_1340 : dc_at cL_law 1340 sL_law_1340 := dc_n2 aL_law_1338
theorem aL_law_1343 : dc_at cL_law 1343 sL_law_1343 := dc_n3 aL_law_1340
theorem aL_law_1344 : dc_at cL_law 1344 sL_law_1344 := dc_n1 aL_law_1343
theorem aL_law_1345 : dc_at cL_law 1345 sL_law_1345 := dc_n1 aL_law_1344
theorem aL_law_1347 : dc_at cL_law 1347 sL_law_1347 := dc_n2 aL_law_1345
theorem aL_law_1348 : dc_at cL_law 1348 sL_law_1348 := dc_n1 aL_law_1347
theorem aL_law_1349 : dc_at cL_law 1349 sL_law_1349 := dc_n1 aL_law_1348
theorem aL_law_1350 : dc_at cL_law 1350 sL_law_1350 := dc_n1 aL_law_1349
theorem aL_law_1351 : dc_at cL_law 1351 sL_law_1351 := dc_n1 aL_law_1350
theorem aL_law_1354 : dc_at cL_law 1354 sL_law_1354 := dc_n3 aL_law_1351
theorem aL_law_1356 : dc_at cL_law 1356 sL_law_1356 := dc_n2 aL_law_1354
theorem aL_law_1357 : dc_at cL_law 1357 sL_law_1357 := dc_n1 aL_law_1356
theorem aL_law_1358 : dc_at cL_law 1358 sL_law_1358 := dc_n1 aL_law_1357
theorem aL_law_1360 : dc_at cL_law 1360 sL_law_1360 := dc_n2 aL_law_1358
theorem aL_law_1361 : dc_at cL_law 1361 sL_law_1361 := dc_n1 aL_law_1360
theorem aL_law_1362 : dc_at cL_law 1362 sL_law_1362 := dc_n1 aL_law_1361
theorem aL_law_1363 : dc_at cL_law 1363 sL_law_1363 := dc_n1 aL_law_1362
theorem aL_law_1366 : dc_at cL_law 1366 sL_law_1366 := dc_n3 aL_law_1363
theorem aL_law_1368 : dc_at cL_law 1368 sL_law_1368 := dc_n2 aL_law_1366
theorem aL_law_1371 : dc_at cL_law 1371 sL_law_1371 := dc_n3 aL_law_1368
theorem aL_law_1372 : dc_at cL_law 1372 sL_law_1372 := dc_n1 aL_law_1371
theorem aL_law_1375 : dc_at cL_law 1375 sL_law_1375 := dc_n3 aL_law_1372
theorem aL_law_1376 : dc_at cL_law 1376 sL_law_1376 := dc_n1 aL_law_1375
theorem aL_law_1377 : dc_at cL_law 1377 sL_law_1377 := dc_n1 aL_law_1376
theorem aL_law_1380 : dc_at cL_law 1380 sL_law_1380 := dc_n3 aL_law_1377
theorem aL_law_1381 : dc_at cL_law 1381 sL_law_1381 := dc_n1 aL_law_1380
theorem aL_law_1384 : dc_at cL_law 1384 sL_law_1384 := dc_n3 aL_law_1381
theorem aL_law_1385 : dc_at cL_law 1385 sL_law_1385 := dc_n1 aL_law_1384
theorem aL_law_1388 : dc_at cL_law 1388 sL_law_1388 := dc_n3 aL_law_1385
theorem aL_law_1389 : dc_at cL_law 1389 sL_law_1389 := dc_n1 aL_law_1388
theorem aL_law_1390 : dc_at cL_law 1390 sL_law_1390 := dc_n1 aL_law_1389
theorem aL_law_1393 : dc_at cL_law 1393 sL_law_1393 := dc_n3 aL_law_1390
theorem aL_law_1394 : dc_at cL_law 1394 sL_law_1394 := dc_n1 aL_law_1393
theorem aL_law_1397 : dc_at cL_law 1397 sL_law_1397 := dc_n3 aL_law_1394
theorem aL_law_1398 : dc_at cL_law 1398 sL_law_1398 := dc_n1 aL_law_1397
theorem aL_law_1399 : dc_at cL_law 1399 sL_law_1399 := dc_n1 aL_law_1398
theorem aL_law_1401 : dc_at cL_law 1401 sL_law_1401 := dc_n2 aL_law_1399
theorem aL_law_1402 : dc_at cL_law 1402 sL_law_1402 := dc_n1 aL_law_1401
theorem aL_law_1403 : dc_at cL_law 1403 sL_law_1403 := dc_n1 aL_law_1402
theorem aL_law_1404 : dc_at cL_law 1404 sL_law_1404 := dc_n1 aL_law_1403
theorem aL_law_1405 : dc_at cL_law 1405 sL_law_1405 := dc_n1 aL_law_1404
theorem aL_law_1407 : dc_at cL_law 1407 sL_law_1407 := dc_n2 aL_law_1405
theorem aL_law_1408 : dc_at cL_law 1408 sL_law_1408 := dc_n1 aL_law_1407
theorem aL_law_1409 : dc_at cL_law 1409 sL_law_1409 := dc_n1 aL_law_1408
theorem aL_law_1410 : dc_at cL_law 1410 sL_law_1410 := dc_n1 aL_law_1409
theorem aL_law_1411 : dc_at cL_law 1411 sL_law_1411 := dc_n1 aL_law_1410
theorem aL_law_1413 : dc_at cL_law 1413 sL_law_1413 := dc_n2 aL_law_1411
theorem aL_law_1414 : dc_at cL_law 1414 sL_law_1414 := dc_n1 aL_law_1413
theorem aL_law_1415 : dc_at cL_law 1415 sL_law_1415 := dc_n1 aL_law_1414
theorem aL_law_1416 : dc_at cL_law 1416 sL_law_1416 := dc_n1 aL_law_1415
theorem aL_law_1417 : dc_at cL_law 1417 sL_law_1417 := dc_n1 aL_law_1416
theorem aL_law_1419 : dc_at cL_law 1419 sL_law_1419 := dc_n2 aL_law_1417
theorem aL_law_1420 : dc_at cL_law 1420 sL_law_1420 := dc_n1 aL_law_1419
theorem aL_law_1421 : dc_at cL_law 1421 sL_law_1421 := dc_n1 aL_law_1420
theorem aL_law_1422 : dc_at cL_law 1422 sL_law_1422 := dc_n1 aL_law_1421
theorem aL_law_1423 : dc_at cL_law 1423 sL_law_1423 := dc_n1 aL_law_1422
theorem aL_law_1425 : dc_at cL_law 1425 sL_law_1425 := dc_n2 aL_law_1423
theorem aL_law_1426 : dc_at cL_law 1426 sL_law_1426 := dc_n1 aL_law_1425
theorem aL_law_1427 : dc_at cL_law 1427 sL_law_1427 := dc_n1 aL_law_1426
theorem aL_law_1428 : dc_at cL_law 1428 sL_law_1428 := dc_n1 aL_law_1427
theorem aL_law_1429 : dc_at cL_law 1429 sL_law_1429 := dc_n1 aL_law_1428
theorem aL_law_1432 : dc_at cL_law 1432 sL_law_1432 := dc_n3 aL_law_1429
theorem aL_law_1434 : dc_at cL_law 1434 sL_law_1434 := dc_n2 aL_law_1432
theorem aL_law_1435 : dc_at cL_law 1435 sL_law_1435 := dc_n1 aL_law_1434
theorem aL_law_1436 : dc_at cL_law 1436 sL_law_1436 := dc_n1 aL_law_1435
theorem aL_law_1438 : dc_at cL_law 1438 sL_law_1438 := dc_n2 aL_law_1436
theorem aL_law_1439 : dc_at cL_law 1439 sL_law_1439 := dc_n1 aL_law_1438
theorem aL_law_1440 : dc_at cL_law 1440 sL_law_1440 := dc_n1 aL_law_1439
theorem aL_law_1441 : dc_at cL_law 1441 sL_law_1441 := dc_n1 aL_law_1440
theorem aL_law_1442 : dc_at cL_law 1442 sL_law_1442 := dc_n1 aL_law_1441
theorem aL_law_1444 : dc_at cL_law 1444 sL_law_1444 := dc_n2 aL_law_1442
theorem aL_law_1445 : dc_at cL_law 1445 sL_law_1445 := dc_n1 aL_law_1444
theorem aL_law_1446 : dc_at cL_law 1446 sL_law_1446 := dc_n1 aL_law_1445
theorem aL_law_1447 : dc_at cL_law 1447 sL_law_1447 := dc_n1 aL_law_1446
theorem aL_law_1448 : dc_at cL_law 1448 sL_law_1448 := dc_n1 aL_law_1447
theorem aL_law_1450 : dc_at cL_law 1450 sL_law_1450 := dc_n2 aL_law_1448
theorem aL_law_1451 : dc_at cL_law 1451 sL_law_1451 := dc_n1 aL_law_1450
theorem aL_law_1452 : dc_at cL_law 1452 sL_law_1452 := dc_n1 aL_law_1451
theorem aL_law_1453 : dc_at cL_law 1453 sL_law_1453 := dc_n1 aL_law_1452
theorem aL_law_1454 : dc_at cL_law 1454 sL_law_1454 := dc_n1 aL_law_1453
theorem aL_law_1456 : dc_at cL_law 1456 sL_law_1456 := dc_n2 aL_law_1454
theorem aL_law_1457 : dc_at cL_law 1457 sL_law_1457 := dc_n1 aL_law_1456
theorem aL_law_1458 : dc_at cL_law 1458 sL_law_1458 := dc_n1 aL_law_1457
theorem aL_law_1459 : dc_at cL_law 1459 sL_law_1459 := dc_n1 aL_law_1458
theorem aL_law_1460 : dc_at cL_law 1460 sL_law_1460 := dc_n1 aL_law_1459
theorem aL_law_1462 : dc_at cL_law 1462 sL_law_1462 := dc_n2 aL_law_1460
theorem aL_law_1463 : dc_at cL_law 1463 sL_law_1463 := dc_n1 aL_law_1462
theorem aL_law_1464 : dc_at cL_law 1464 sL_law_1464 := dc_n1 aL_law_1463
theorem aL_law_1465 : dc_at cL_law 1465 sL_law_1465 := dc_n1 aL_law_1464
theorem aL_law_1468 : dc_at cL_law 1468 sL_law_1468 := dc_n3 aL_law_1465
theorem aL_law_1470 : dc_at cL_law 1470 sL_law_1470 := dc_n2 aL_law_1468
theorem aL_law_1473 : dc_at cL_law 1473 sL_law_1473 := dc_n3 aL_law_1470
theorem aL_law_1474 : dc_at cL_law 1474 sL_law_1474 := dc_n1 aL_law_1473
theorem aL_law_1475 : dc_at cL_law 1475 sL_law_1475 := dc_n1 aL_law_1474
theorem aL_law_1477 : dc_at cL_law 1477 sL_law_1477 := dc_n2 aL_law_1475
theorem aL_law_1478 : dc_at cL_law 1478 sL_law_1478 := dc_n1 aL_law_1477
theorem aL_law_1479 : dc_at cL_law 1479 sL_law_1479 := dc_n1 aL_law_1478
theorem aL_law_1480 : dc_at cL_law 1480 sL_law_1480 := dc_n1 aL_law_1479
theorem aL_law_1481 : dc_at cL_law 1481 sL_law_1481 := dc_n1 aL_law_1480
theorem aL_law_1483 : dc_at cL_law 1483 sL_law_1483 := dc_n2 aL_law_1481
theorem aL_law_1484 : dc_at cL_law 1484 sL_law_1484 := dc_n1 aL_law_1483
theorem aL_law_1485 : dc_at cL_law 1485 sL_law_1485 := dc_n1 aL_law_1484
theorem aL_law_1486 : dc_at cL_law 1486 sL_law_1486 := dc_n1 aL_law_1485
theorem aL_law_1487 : dc_at cL_law 1487 sL_law_1487 := dc_n1 aL_law_1486
theorem aL_law_1489 : dc_at cL_law 1489 sL_law_1489 := dc_n2 aL_law_1487
theorem aL_law_1490 : dc_at cL_law 1490 sL_law_1490 := dc_n1 aL_law_1489
theorem aL_law_1491 : dc_at cL_law 1491 sL_law_1491 := dc_n1 aL_law_1490
theorem aL_law_1492 : dc_at cL_law 1492 sL_law_1492 := dc_n1 aL_law_1491
theorem aL_law_1493 : dc_at cL_law 1493 sL_law_1493 := dc_n1 aL_law_1492
theorem aL_law_1495 : dc_at cL_law 1495 sL_law_1495 := dc_n2 aL_law_1493
theorem aL_law_1496 : dc_at cL_law 1496 sL_law_1496 := dc_n1 aL_law_1495
theorem aL_law_1497 : dc_at cL_law 1497 sL_law_1497 := dc_n1 aL_law_1496
theorem aL_law_1498 : dc_at cL_law 1498 sL_law_1498 := dc_n1 aL_law_1497
theorem aL_law_1499 : dc_at cL_law 1499 sL_law_1499 := dc_n1 aL_law_1498
theorem aL_law_1502 : dc_at cL_law 1502 sL_law_1502 := dc_n3 aL_law_1499
theorem aL_law_1504 : dc_at cL_law 1504 sL_law_1504 := dc_n2 aL_law_1502
theorem aL_law_1505 : dc_at cL_law 1505 sL_law_1505 := dc_n1 aL_law_1504
theorem aL_law_1506 : dc_at cL_law 1506 sL_law_1506 := dc_n1 aL_law_1505
theorem aL_law_1508 : dc_at cL_law 1508 sL_law_1508 := dc_n2 aL_law_1506
theorem aL_law_1509 : dc_at cL_law 1509 sL_law_1509 := dc_n1 aL_law_1508
theorem aL_law_1510 : dc_at cL_law 1510 sL_law_1510 := dc_n1 aL_law_1509
theorem aL_law_1511 : dc_at cL_law 1511 sL_law_1511 := dc_n1 aL_law_1510
theorem aL_law_1512 : dc_at cL_law 1512 sL_law_1512 := dc_n1 aL_law_1511
theorem aL_law_1514 : dc_at cL_law 1514 sL_law_1514 := dc_n2 aL_law_1512
theorem aL_law_1515 : dc_at cL_law 1515 sL_law_1515 := dc_n1 aL_law_1514
theorem aL_law_1516 : dc_at cL_law 1516 sL_law_1516 := dc_n1 aL_law_1515
theorem aL_law_1517 : dc_at cL_law 1517 sL_law_1517 := dc_n1 aL_law_1516
theorem aL_law_1518 : dc_at cL_law 1518 sL_law_1518 := dc_n1 aL_law_1517
theorem aL_law_1520 : dc_at cL_law 1520 sL_law_1520 := dc_n2 aL_law_1518
theorem aL_law_1521 : dc_at cL_law 1521 sL_law_1521 := dc_n1 aL_law_1520
theorem aL_law_1522 : dc_at cL_law 1522 sL_law_1522 := dc_n1 aL_law_1521
theorem aL_law_1523 : dc_at cL_law 1523 sL_law_1523 := dc_n1 aL_law_1522
theorem aL_law_1524 : dc_at cL_law 1524 sL_law_1524 := dc_n1 aL_law_1523
theorem aL_law_1526 : dc_at cL_law 1526 sL_law_1526 := dc_n2 aL_law_1524
theorem aL_law_1527 : dc_at cL_law 1527 sL_law_1527 := dc_n1 aL_law_1526
theorem aL_law_1528 : dc_at cL_law 1528 sL_law_1528 := dc_n1 aL_law_1527
theorem aL_law_1529 : dc_at cL_law 1529 sL_law_1529 := dc_n1 aL_law_1528
theorem aL_law_1532 : dc_at cL_law 1532 sL_law_1532 := dc_n3 aL_law_1529
theorem aL_law_1534 : dc_at cL_law 1534 sL_law_1534 := dc_n2 aL_law_1532
theorem aL_law_1537 : dc_at cL_law 1537 sL_law_1537 := dc_n3 aL_law_1534
theorem aL_law_1538 : dc_at cL_law 1538 sL_law_1538 := dc_n1 aL_law_1537
theorem aL_law_1539 : dc_at cL_law 1539 sL_law_1539 := dc_n1 aL_law_1538
theorem aL_law_1541 : dc_at cL_law 1541 sL_law_1541 := dc_n2 aL_law_1539
theorem aL_law_1542 : dc_at cL_law 1542 sL_law_1542 := dc_n1 aL_law_1541
theorem aL_law_1543 : dc_at cL_law 1543 sL_law_1543 := dc_n1 aL_law_1542
theorem aL_law_1544 : dc_at cL_law 1544 sL_law_1544 := dc_n1 aL_law_1543
theorem aL_law_1545 : dc_at cL_law 1545 sL_law_1545 := dc_n1 aL_law_1544
theorem aL_law_1547 : dc_at cL_law 1547 sL_law_1547 := dc_n2 aL_law_1545
theorem aL_law_1548 : dc_at cL_law 1548 sL_law_1548 := dc_n1 aL_law_1547
theorem aL_law_1549 : dc_at cL_law 1549 sL_law_1549 := dc_n1 aL_law_1548
theorem aL_law_1550 : dc_at cL_law 1550 sL_law_1550 := dc_n1 aL_law_1549
theorem aL_law_1551 : dc_at cL_law 1551 sL_law_1551 := dc_n1 aL_law_1550
theorem aL_law_1553 : dc_at cL_law 1553 sL_law_1553 := dc_n2 aL_law_1551
theorem aL_law_1554 : dc_at cL_law 1554 sL_law_1554 := dc_n1 aL_law_1553
theorem aL_law_1555 : dc_at cL_law 1555 sL_law_1555 := dc_n1 aL_law_1554
theorem aL_law_1556 : dc_at cL_law 1556 sL_law_1556 := dc_n1 aL_law_1555
theorem aL_law_1557 : dc_at cL_law 1557 sL_law_1557 := dc_n1 aL_law_1556
theorem aL_law_1560 : dc_at cL_law 1560 sL_law_1560 := dc_n3 aL_law_1557
theorem aL_law_1562 : dc_at cL_law 1562 sL_law_1562 := dc_n2 aL_law_1560
theorem aL_law_1563 : dc_at cL_law 1563 sL_law_1563 := dc_n1 aL_law_1562
theorem aL_law_1564 : dc_at cL_law 1564 sL_law_1564 := dc_n1 aL_law_1563
theorem aL_law_1566 : dc_at cL_law 1566 sL_law_1566 := dc_n2 aL_law_1564
theorem aL_law_1567 : dc_at cL_law 1567 sL_law_1567 := dc_n1 aL_law_1566
theorem aL_law_1568 : dc_at cL_law 1568 sL_law_1568 := dc_n1 aL_law_1567
theorem aL_law_1569 : dc_at cL_law 1569 sL_law_1569 := dc_n1 aL_law_1568
theorem aL_law_1570 : dc_at cL_law 1570 sL_law_1570 := dc_n1 aL_law_1569
theorem aL_law_1572 : dc_at cL_law 1572 sL_law_1572 := dc_n2 aL_law_1570
theorem aL_law_1573 : dc_at cL_law 1573 sL_law_1573 := dc_n1 aL_law_1572
theorem aL_law_1574 : dc_at cL_law 1574 sL_law_1574 := dc_n1 aL_law_1573
theorem aL_law_1575 : dc_at cL_law 1575 sL_law_1575 := dc_n1 aL_law_1574
theorem aL_law_1576 : dc_at cL_law 1576 sL_law_1576 := dc_n1 aL_law_1575
theorem aL_law_1578 : dc_at cL_law 1578 sL_law_1578 := dc_n2 aL_law_1576
theorem aL_law_1579 : dc_at cL_law 1579 sL_law_1579 := dc_n1 aL_law_1578
theorem aL_law_1580 : dc_at cL_law 1580 sL_law_1580 := dc_n1 aL_law_1579
theorem aL_law_1581 : dc_at cL_law 1581 sL_law_1581 := dc_n1 aL_law_1580
theorem aL_law_1584 : dc_at cL_law 1584 sL_law_1584 := dc_n3 aL_law_1581
theorem aL_law_1586 : dc_at cL_law 1586 sL_law_1586 := dc_n2 aL_law_1584
theorem aL_law_1589 : dc_at cL_law 1589 sL_law_1589 := dc_n3 aL_law_1586
theorem aL_law_1590 : dc_at cL_law 1590 sL_law_1590 := dc_n1 aL_law_1589
theorem aL_law_1591 : dc_at cL_law 1591 sL_law_1591 := dc_n1 aL_law_1590
theorem aL_law_1593 : dc_at cL_law 1593 sL_law_1593 := dc_n2 aL_law_1591
theorem aL_law_1594 : dc_at cL_law 1594 sL_law_1594 := dc_n1 aL_law_1593
theorem aL_law_1595 : dc_at cL_law 1595 sL_law_1595 := dc_n1 aL_law_1594
theorem aL_law_1596 : dc_at cL_law 1596 sL_law_1596 := dc_n1 aL_law_1595
theorem aL_law_1597 : dc_at cL_law 1597 sL_law_1597 := dc_n1 aL_law_1596
theorem aL_law_1599 : dc_at cL_law 1599 sL_law_1599 := dc_n2 aL_law_1597
theorem aL_law_1600 : dc_at cL_law 1600 sL_law_1600 := dc_n1 aL_law_1599
theorem aL_law_1601 : dc_at cL_law 1601 sL_law_1601 := dc_n1 aL_law_1600
theorem aL_law_1602 : dc_at cL_law 1602 sL_law_1602 := dc_n1 aL_law_1601
theorem aL_law_1603 : dc_at cL_law 1603 sL_law_1603 := dc_n1 aL_law_1602
theorem aL_law_1606 : dc_at cL_law 1606 sL_law_1606 := dc_n3 aL_law_1603
theorem aL_law_1608 : dc_at cL_law 1608 sL_law_1608 := dc_n2 aL_law_1606
theorem aL_law_1609 : dc_at cL_law 1609 sL_law_1609 := dc_n1 aL_law_1608
theorem aL_law_1610 : dc_at cL_law 1610 sL_law_1610 := dc_n1 aL_law_1609
theorem aL_law_1612 : dc_at cL_law 1612 sL_law_1612 := dc_n2 aL_law_1610
theorem aL_law_1613 : dc_at cL_law 1613 sL_law_1613 := dc_n1 aL_law_1612
theorem aL_law_1614 : dc_at cL_law 1614 sL_law_1614 := dc_n1 aL_law_1613
theorem aL_law_1615 : dc_at cL_law 1615 sL_law_1615 := dc_n1 aL_law_1614
theorem aL_law_1616 : dc_at cL_law 1616 sL_law_1616 := dc_n1 aL_law_1615
theorem aL_law_1618 : dc_at cL_law 1618 sL_law_1618 := dc_n2 aL_law_1616
theorem aL_law_1619 : dc_at cL_law 1619 sL_law_1619 := dc_n1 aL_law_1618
theorem aL_law_1620 : dc_at cL_law 1620 sL_law_1620 := dc_n1 aL_law_1619
theorem aL_law_1621 : dc_at cL_law 1621 sL_law_1621 := dc_n1 aL_law_1620
theorem aL_law_1624 : dc_at cL_law 1624 sL_law_1624 := dc_n3 aL_law_1621
theorem aL_law_1626 : dc_at cL_law 1626 sL_law_1626 := dc_n2 aL_law_1624
theorem aL_law_1629 : dc_at cL_law 1629 sL_law_1629 := dc_n3 aL_law_1626
theorem aL_law_1630 : dc_at cL_law 1630 sL_law_1630 := dc_n1 aL_law_1629
theorem aL_law_1631 : dc_at cL_law 1631 sL_law_1631 := dc_n1 aL_law_1630
theorem aL_law_1633 : dc_at cL_law 1633 sL_law_1633 := dc_n2 aL_law_1631
theorem aL_law_1634 : dc_at cL_law 1634 sL_law_1634 := dc_n1 aL_law_1633
theorem aL_law_1635 : dc_at cL_law 1635 sL_law_1635 := dc_n1 aL_law_1634
theorem aL_law_1636 : dc_at cL_law 1636 sL_law_1636 := dc_n1 aL_law_1635
theorem aL_law_1637 : dc_at cL_law 1637 sL_law_1637 := dc_n1 aL_law_1636
theorem aL_law_1639 : dc_at cL_law 1639 sL_law_1639 := dc_n2 aL_law_1637
theorem aL_law_1640 : dc_at cL_law 1640 sL_law_1640 := dc_n1 aL_law_1639
theorem aL_law_1641 : dc_at cL_law 1641 sL_law_1641 := dc_n1 aL_law_1640
theorem aL_law_1642 : dc_at cL_law 1642 sL_law_1642 := dc_n1 aL_law_1641
theorem aL_law_1643 : dc_at cL_law 1643 sL_law_1643 := dc_n1 aL_law_1642
theorem aL_law_1645 : dc_at cL_law 1645 sL_law_1645 := dc_n2 aL_law_1643
theorem aL_law_1646 : dc_at cL_law 1646 sL_law_1646 := dc_n1 aL_law_1645
theorem aL_law_1647 : dc_at cL_law 1647 sL_law_1647 := dc_n1 aL_law_1646
theorem aL_law_1648 : dc_at cL_law 1648 sL_law_1648 := dc_n1 aL_law_1647
theorem aL_law_1649 : dc_at cL_law 1649 sL_law_1649 := dc_n1 aL_law_1648
theorem aL_law_1652 : dc_at cL_law 1652 sL_law_1652 := dc_n3 aL_law_1649
theorem aL_law_1654 : dc_at cL_law 1654 sL_law_1654 := dc_n2 aL_law_1652
theorem aL_law_1655 : dc_at cL_law 1655 sL_law_1655 := dc_n1 aL_law_1654
theorem aL_law_1656 : dc_at cL_law 1656 sL_law_1656 := dc_n1 aL_law_1655
theorem aL_law_1658 : dc_at cL_law 1658 sL_law_1658 := dc_n2 aL_law_1656
theorem aL_law_1659 : dc_at cL_law 1659 sL_law_1659 := dc_n1 aL_law_1658
theorem aL_law_1660 : dc_at cL_law 1660 sL_law_1660 := dc_n1 aL_law_1659
theorem aL_law_1661 : dc_at cL_law 1661 sL_law_1661 := dc_n1 aL_law_1660
theorem aL_law_1662 : dc_at cL_law 1662 sL_law_1662 := dc_n1 aL_law_1661
theorem aL_law_1664 : dc_at cL_law 1664 sL_law_1664 := dc_n2 aL_law_1662
theorem aL_law_1665 : dc_at cL_law 1665 sL_law_1665 := dc_n1 aL_law_1664
theorem aL_law_1666 : dc_at cL_law 1666 sL_law_1666 := dc_n1 aL_law_1665
theorem aL_law_1667 : dc_at cL_law 1667 sL_law_1667 := dc_n1 aL_law_1666
theorem aL_law_1668 : dc_at cL_law 1668 sL_law_1668 := dc_n1 aL_law_1667
theorem aL_law_1670 : dc_at cL_law 1670 sL_law_1670 := dc_n2 aL_law_1668
theorem aL_law_1671 : dc_at cL_law 1671 sL_law_1671 := dc_n1 aL_law_1670
theorem aL_law_1672 : dc_at cL_law 1672 sL_law_1672 := dc_n1 aL_law_1671
theorem aL_law_1673 : dc_at cL_law 1673 sL_law_1673 := dc_n1 aL_law_1672
theorem aL_law_1676 : dc_at cL_law 1676 sL_law_1676 := dc_n3 aL_law_1673
theorem aL_law_1678 : dc_at cL_law 1678 sL_law_1678 := dc_n2 aL_law_1676
theorem aL_law_1681 : dc_at cL_law 1681 sL_law_1681 := dc_n3 aL_law_1678
theorem aL_law_1682 : dc_at cL_law 1682 sL_law_1682 := dc_n1 aL_law_1681
theorem aL_law_1683 : dc_at cL_law 1683 sL_law_1683 := dc_n1 aL_law_1682
theorem aL_law_1685 : dc_at cL_law 1685 sL_law_1685 := dc_n2 aL_law_1683
theorem aL_law_1686 : dc_at cL_law 1686 sL_law_1686 := dc_n1 aL_law_1685
theorem aL_law_1687 : dc_at cL_law 1687 sL_law_1687 := dc_n1 aL_law_1686
theorem aL_law_1688 : dc_at cL_law 1688 sL_law_1688 := dc_n1 aL_law_1687
theorem aL_law_1689 : dc_at cL_law 1689 sL_law_1689 := dc_n1 aL_law_1688
theorem aL_law_1691 : dc_at cL_law 1691 sL_law_1691 := dc_n2 aL_law_1689
theorem aL_law_1692 : dc_at cL_law 1692 sL_law_1692 := dc_n1 aL_law_1691
theorem aL_law_1693 : dc_at cL_law 1693 sL_law_1693 := dc_n1 aL_law_1692
theorem aL_law_1694 : dc_at cL_law 1694 sL_law_1694 := dc_n1 aL_law_1693
theorem aL_law_1695 : dc_at cL_law 1695 sL_law_1695 := dc_n1 aL_law_1694
theorem aL_law_1698 : dc_at cL_law 1698 sL_law_1698 := dc_n3 aL_law_1695
theorem aL_law_1700 : dc_at cL_law 1700 sL_law_1700 := dc_n2 aL_law_1698
theorem aL_law_1701 : dc_at cL_law 1701 sL_law_1701 := dc_n1 aL_law_1700
theorem aL_law_1702 : dc_at cL_law 1702 sL_law_1702 := dc_n1 aL_law_1701
theorem aL_law_1704 : dc_at cL_law 1704 sL_law_1704 := dc_n2 aL_law_1702
theorem aL_law_1705 : dc_at cL_law 1705 sL_law_1705 := dc_n1 aL_law_1704
theorem aL_law_1706 : dc_at cL_law 1706 sL_law_1706 := dc_n1 aL_law_1705
theorem aL_law_1707 : dc_at cL_law 1707 sL_law_1707 := dc_n1 aL_law_1706
theorem aL_law_1708 : dc_at cL_law 1708 sL_law_1708 := dc_n1 aL_law_1707
theorem aL_law_1710 : dc_at cL_law 1710 sL_law_1710 := dc_n2 aL_law_1708
theorem aL_law_1711 : dc_at cL_law 1711 sL_law_1711 := dc_n1 aL_law_1710
theorem aL_law_1712 : dc_at cL_law 1712 sL_law_1712 := dc_n1 aL_law_1711
theorem aL_law_1713 : dc_at cL_law 1713 sL_law_1713 := dc_n1 aL_law_1712
theorem aL_law_1716 : dc_at cL_law 1716 sL_law_1716 := dc_n3 aL_law_1713
theorem aL_law_1718 : dc_at cL_law 1718 sL_law_1718 := dc_n2 aL_law_1716
theorem aL_law_1721 : dc_at cL_law 1721 sL_law_1721 := dc_n3 aL_law_1718
theorem aL_law_1722 : dc_at cL_law 1722 sL_law_1722 := dc_n1 aL_law_1721
theorem aL_law_1723 : dc_at cL_law 1723 sL_law_1723 := dc_n1 aL_law_1722
theorem aL_law_1725 : dc_at cL_law 1725 sL_law_1725 := dc_n2 aL_law_1723
theorem aL_law_1726 : dc_at cL_law 1726 sL_law_1726 := dc_n1 aL_law_1725
theorem aL_law_1727 : dc_at cL_law 1727 sL_law_1727 := dc_n1 aL_law_1726
theorem aL_law_1728 : dc_at cL_law 1728 sL_law_1728 := dc_n1 aL_law_1727
theorem aL_law_1729 : dc_at cL_law 1729 sL_law_1729 := dc_n1 aL_law_1728
theorem aL_law_1731 : dc_at cL_law 1731 sL_law_1731 := dc_n2 aL_law_1729
theorem aL_law_1732 : dc_at cL_law 1732 sL_law_1732 := dc_n1 aL_law_1731
theorem aL_law_1733 : dc_at cL_law 1733 sL_law_1733 := dc_n1 aL_law_1732
theorem aL_law_1734 : dc_at cL_law 1734 sL_law_1734 := dc_n1 aL_law_1733
theorem aL_law_1735 : dc_at cL_law 1735 sL_law_1735 := dc_n1 aL_law_1734
theorem aL_law_1737 : dc_at cL_law 1737 sL_law_1737 := dc_n2 aL_law_1735
theorem aL_law_1738 : dc_at cL_law 1738 sL_law_1738 := dc_n1 aL_law_1737
theorem aL_law_1739 : dc_at cL_law 1739 sL_law_1739 := dc_n1 aL_law_1738
theorem aL_law_1740 : dc_at cL_law 1740 sL_law_1740 := dc_n1 aL_law_1739
theorem aL_law_1741 : dc_at cL_law 1741 sL_law_1741 := dc_n1 aL_law_1740
theorem aL_law_1744 : dc_at cL_law 1744 sL_law_1744 := dc_n3 aL_law_1741
theorem aL_law_1746 : dc_at cL_law 1746 sL_law_1746 := dc_n2 aL_law_1744
theorem aL_law_1747 : dc_at cL_law 1747 sL_law_1747 := dc_n1 aL_law_1746
theorem aL_law_1748 : dc_at cL_law 1748 sL_law_1748 := dc_n1 aL_law_1747
theorem aL_law_1750 : dc_at cL_law 1750 sL_law_1750 := dc_n2 aL_law_1748
theorem aL_law_1751 : dc_at cL_law 1751 sL_law_1751 := dc_n1 aL_law_1750
theorem aL_law_1752 : dc_at cL_law 1752 sL_law_1752 := dc_n1 aL_law_1751
theorem aL_law_1753 : dc_at cL_law 1753 sL_law_1753 := dc_n1 aL_law_1752
theorem aL_law_1754 : dc_at cL_law 1754 sL_law_1754 := dc_n1 aL_law_1753
theorem aL_law_1756 : dc_at cL_law 1756 sL_law_1756 := dc_n2 aL_law_1754
theorem aL_law_1757 : dc_at cL_law 1757 sL_law_1757 := dc_n1 aL_law_1756
theorem aL_law_1758 : dc_at cL_law 1758 sL_law_1758 := dc_n1 aL_law_1757
theorem aL_law_1759 : dc_at cL_law 1759 sL_law_1759 := dc_n1 aL_law_1758
theorem aL_law_1760 : dc_at cL_law 1760 sL_law_1760 := dc_n1 aL_law_1759
theorem aL_law_1762 : dc_at cL_law 1762 sL_law_1762 := dc_n2 aL_law_1760
theorem aL_law_1763 : dc_at cL_law 1763 sL_law_1763 := dc_n1 aL_law_1762
theorem aL_law_1764 : dc_at cL_law 1764 sL_law_1764 := dc_n1 aL_law_1763
theorem aL_law_1765 : dc_at cL_law 1765 sL_law_1765 := dc_n1 aL_law_1764
theorem aL_law_1768 : dc_at cL_law 1768 sL_law_1768 := dc_n3 aL_law_1765
theorem aL_law_1770 : dc_at cL_law 1770 sL_law_1770 := dc_n2 aL_law_1768
theorem aL_law_1773 : dc_at cL_law 1773 sL_law_1773 := dc_n3 aL_law_1770
theorem aL_law_1774 : dc_at cL_law 1774 sL_law_1774 := dc_n1 aL_law_1773
theorem aL_law_1775 : dc_at cL_law 1775 sL_law_1775 := dc_n1 aL_law_1774
theorem aL_law_1777 : dc_at cL_law 1777 sL_law_1777 := dc_n2 aL_law_1775
theorem aL_law_1778 : dc_at cL_law 1778 sL_law_1778 := dc_n1 aL_law_1777
theorem aL_law_1779 : dc_at cL_law 1779 sL_law_1779 := dc_n1 aL_law_1778
theorem aL_law_1780 : dc_at cL_law 1780 sL_law_1780 := dc_n1 aL_law_1779
theorem aL_law_1781 : dc_at cL_law 1781 sL_law_1781 := dc_n1 aL_law_1780
theorem aL_law_1783 : dc_at cL_law 1783 sL_law_1783 := dc_n2 aL_law_1781
theorem aL_law_1784 : dc_at cL_law 1784 sL_law_1784 := dc_n1 aL_law_1783
theorem aL_law_1785 : dc_at cL_law 1785 sL_law_1785 := dc_n1 aL_law_1784
theorem aL_law_1786 : dc_at cL_law 1786 sL_law_1786 := dc_n1 aL_law_1785
theorem aL_law_1787 : dc_at cL_law 1787 sL_law_1787 := dc_n1 aL_law_1786
theorem aL_law_1789 : dc_at cL_law 1789 sL_law_1789 := dc_n2 aL_law_1787
theorem aL_law_1790 : dc_at cL_law 1790 sL_law_1790 := dc_n1 aL_law_1789
theorem aL_law_1791 : dc_at cL_law 1791 sL_law_1791 := dc_n1 aL_law_1790
theorem aL_law_1792 : dc_at cL_law 1792 sL_law_1792 := dc_n1 aL_law_1791
theorem aL_law_1793 : dc_at cL_law 1793 sL_law_1793 := dc_n1 aL_law_1792
theorem aL_law_1796 : dc_at cL_law 1796 sL_law_1796 := dc_n3 aL_law_1793
theorem aL_law_1798 : dc_at cL_law 1798 sL_law_1798 := dc_n2 aL_law_1796
theorem aL_law_1799 : dc_at cL_law 1799 sL_law_1799 := dc_n1 aL_law_1798
theorem aL_law_1800 : dc_at cL_law 1800 sL_law_1800 := dc_n1 aL_law_1799
theorem aL_law_1802 : dc_at cL_law 1802 sL_law_1802 := dc_n2 aL_law_1800
theorem aL_law_1803 : dc_at cL_law 1803 sL_law_1803 := dc_n1 aL_law_1802
theorem aL_law_1804 : dc_at cL_law 1804 sL_law_1804 := dc_n1 aL_law_1803
theorem aL_law_1805 : dc_at cL_law 1805 sL_law_1805 := dc_n1 aL_law_1804
theorem aL_law_1806 : dc_at cL_law 1806 sL_law_1806 := dc_n1 aL_law_1805
theorem aL_law_1808 : dc_at cL_law 1808 sL_law_1808 := dc_n2 aL_law_1806
theorem aL_law_1809 : dc_at cL_law 1809 sL_law_1809 := dc_n1 aL_law_1808
theorem aL_law_1810 : dc_at cL_law 1810 sL_law_1810 := dc_n1 aL_law_1809
theorem aL_law_1811 : dc_at cL_law 1811 sL_law_1811 := dc_n1 aL_law_1810
theorem aL_law_1812 : dc_at cL_law 1812 sL_law_1812 := dc_n1 aL_law_1811
theorem aL_law_1814 : dc_at cL_law 1814 sL_law_1814 := dc_n2 aL_law_1812
theorem aL_law_1815 : dc_at cL_law 1815 sL_law_1815 := dc_n1 aL_law_1814
theorem aL_law_1816 : dc_at cL_law 1816 sL_law_1816 := dc_n1 aL_law_1815
theorem aL_law_1817 : dc_at cL_law 1817 sL_law_1817 := dc_n1 aL_law_1816
theorem aL_law_1820 : dc_at cL_law 1820 sL_law_1820 := dc_n3 aL_law_1817
theorem aL_law_1822 : dc_at cL_law 1822 sL_law_1822 := dc_n2 aL_law_1820
theorem aL_law_1825 : dc_at cL_law 1825 sL_law_1825 := dc_n3 aL_law_1822
theorem aL_law_1826 : dc_at cL_law 1826 sL_law_1826 := dc_n1 aL_law_1825
theorem aL_law_1827 : dc_at cL_law 1827 sL_law_1827 := dc_n1 aL_law_1826
theorem aL_law_1829 : dc_at cL_law 1829 sL_law_1829 := dc_n2 aL_law_1827
theorem aL_law_1830 : dc_at cL_law 1830 sL_law_1830 := dc_n1 aL_law_1829
theorem aL_law_1831 : dc_at cL_law 1831 sL_law_1831 := dc_n1 aL_law_1830
theorem aL_law_1832 : dc_at cL_law 1832 sL_law_1832 := dc_n1 aL_law_1831
theorem aL_law_1833 : dc_at cL_law 1833 sL_law_1833 := dc_n1 aL_law_1832
theorem aL_law_1835 : dc_at cL_law 1835 sL_law_1835 := dc_n2 aL_law_1833
theorem aL_law_1836 : dc_at cL_law 1836 sL_law_1836 := dc_n1 aL_law_1835
theorem aL_law_1837 : dc_at cL_law 1837 sL_law_1837 := dc_n1 aL_law_1836
theorem aL_law_1838 : dc_at cL_law 1838 sL_law_1838 := dc_n1 aL_law_1837
theorem aL_law_1839 : dc_at cL_law 1839 sL_law_1839 := dc_n1 aL_law_1838
theorem aL_law_1842 : dc_at cL_law 1842 sL_law_1842 := dc_n3 aL_law_1839
theorem aL_law_1844 : dc_at cL_law 1844 sL_law_1844 := dc_n2 aL_law_1842
theorem aL_law_1845 : dc_at cL_law 1845 sL_law_1845 := dc_n1 aL_law_1844
theorem aL_law_1846 : dc_at cL_law 1846 sL_law_1846 := dc_n1 aL_law_1845
theorem aL_law_1848 : dc_at cL_law 1848 sL_law_1848 := dc_n2 aL_law_1846
theorem aL_law_1849 : dc_at cL_law 1849 sL_law_1849 := dc_n1 aL_law_1848
theorem aL_law_1850 : dc_at cL_law 1850 sL_law_1850 := dc_n1 aL_law_1849
theorem aL_law_1851 : dc_at cL_law 1851 sL_law_1851 := dc_n1 aL_law_1850
theorem aL_law_1852 : dc_at cL_law 1852 sL_law_1852 := dc_n1 aL_law_1851
theorem aL_law_1854 : dc_at cL_law 1854 sL_law_1854 := dc_n2 aL_law_1852
theorem aL_law_1855 : dc_at cL_law 1855 sL_law_1855 := dc_n1 aL_law_1854
theorem aL_law_1856 : dc_at cL_law 1856 sL_law_1856 := dc_n1 aL_law_1855
theorem aL_law_1857 : dc_at cL_law 1857 sL_law_1857 := dc_n1 aL_law_1856
theorem aL_law_1860 : dc_at cL_law 1860 sL_law_1860 := dc_n3 aL_law_1857
theorem aL_law_1862 : dc_at cL_law 1862 sL_law_1862 := dc_n2 aL_law_1860
theorem aL_law_1865 : dc_at cL_law 1865 sL_law_1865 := dc_n3 aL_law_1862
theorem aL_law_1866 : dc_at cL_law 1866 sL_law_1866 := dc_n1 aL_law_1865
theorem aL_law_1869 : dc_at cL_law 1869 sL_law_1869 := dc_n3 aL_law_1866
theorem aL_law_1870 : dc_at cL_law 1870 sL_law_1870 := dc_n1 aL_law_1869
theorem aL_law_1871 : dc_at cL_law 1871 sL_law_1871 := dc_n1 aL_law_1870
theorem aL_law_1874 : dc_at cL_law 1874 sL_law_1874 := dc_n3 aL_law_1871
theorem aL_law_1875 : dc_at cL_law 1875 sL_law_1875 := dc_n1 aL_law_1874
theorem aL_law_1878 : dc_at cL_law 1878 sL_law_1878 := dc_n3 aL_law_1875
theorem aL_law_1879 : dc_at cL_law 1879 sL_law_1879 := dc_n1 aL_law_1878
theorem aL_law_1880 : dc_at cL_law 1880 sL_law_1880 := dc_n1 aL_law_1879
theorem aL_law_1882 : dc_at cL_law 1882 sL_law_1882 := dc_n2 aL_law_1880
theorem aL_law_1883 : dc_at cL_law 1883 sL_law_1883 := dc_n1 aL_law_1882
theorem aL_law_1884 : dc_at cL_law 1884 sL_law_1884 := dc_n1 aL_law_1883
theorem aL_law_1885 : dc_at cL_law 1885 sL_law_1885 := dc_n1 aL_law_1884
theorem aL_law_1886 : dc_at cL_law 1886 sL_law_1886 := dc_n1 aL_law_1885
theorem aL_law_1889 : dc_at cL_law 1889 sL_law_1889 := dc_n3 aL_law_1886
theorem aL_law_1891 : dc_at cL_law 1891 sL_law_1891 := dc_n2 aL_law_1889
theorem aL_law_1892 : dc_at cL_law 1892 sL_law_1892 := dc_n1 aL_law_1891
theorem aL_law_1893 : dc_at cL_law 1893 sL_law_1893 := dc_n1 aL_law_1892
theorem aL_law_1895 : dc_at cL_law 1895 sL_law_1895 := dc_n2 aL_law_1893
theorem aL_law_1896 : dc_at cL_law 1896 sL_law_1896 := dc_n1 aL_law_1895
theorem aL_law_1897 : dc_at cL_law 1897 sL_law_1897 := dc_n1 aL_law_1896
theorem aL_law_1898 : dc_at cL_law 1898 sL_law_1898 := dc_n1 aL_law_1897
theorem aL_law_1901 : dc_at cL_law 1901 sL_law_1901 := dc_n3 aL_law_1898
theorem aL_law_1903 : dc_at cL_law 1903 sL_law_1903 := dc_n2 aL_law_1901
theorem aL_law_1906 : dc_at cL_law 1906 sL_law_1906 := dc_n3 aL_law_1903
theorem aL_law_1907 : dc_at cL_law 1907 sL_law_1907 := dc_n1 aL_law_1906
theorem aL_law_1908 : dc_at cL_law 1908 sL_law_1908 := dc_n1 aL_law_1907
theorem aL_law_1910 : dc_at cL_law 1910 sL_law_1910 := dc_n2 aL_law_1908
theorem aL_law_1911 : dc_at cL_law 1911 sL_law_1911 := dc_n1 aL_law_1910
theorem aL_law_1912 : dc_at cL_law 1912 sL_law_1912 := dc_n1 aL_law_1911
theorem aL_law_1913 : dc_at cL_law 1913 sL_law_1913 := dc_n1 aL_law_1912
theorem aL_law_1914 : dc_at cL_law 1914 sL_law_1914 := dc_n1 aL_law_1913
theorem aL_law_1916 : dc_at cL_law 1916 sL_law_1916 := dc_n2 aL_law_1914
theorem aL_law_1917 : dc_at cL_law 1917 sL_law_1917 := dc_n1 aL_law_1916
theorem aL_law_1918 : dc_at cL_law 1918 sL_law_1918 := dc_n1 aL_law_1917
theorem aL_law_1919 : dc_at cL_law 1919 sL_law_1919 := dc_n1 aL_law_1918
theorem aL_law_1920 : dc_at cL_law 1920 sL_law_1920 := dc_n1 aL_law_1919
theorem aL_law_1922 : dc_at cL_law 1922 sL_law_1922 := dc_n2 aL_law_1920
theorem aL_law_1923 : dc_at cL_law 1923 sL_law_1923 := dc_n1 aL_law_1922
theorem aL_law_1924 : dc_at cL_law 1924 sL_law_1924 := dc_n1 aL_law_1923
theorem aL_law_1925 : dc_at cL_law 1925 sL_law_1925 := dc_n1 aL_law_1924
theorem aL_law_1926 : dc_at cL_law 1926 sL_law_1926 := dc_n1 aL_law_1925
theorem aL_law_1929 : dc_at cL_law 1929 sL_law_1929 := dc_n3 aL_law_1926
theorem aL_law_1931 : dc_at cL_law 1931 sL_law_1931 := dc_n2 aL_law_1929
theorem aL_law_1932 : dc_at cL_law 1932 sL_law_1932 := dc_n1 aL_law_1931
theorem aL_law_1933 : dc_at cL_law 1933 sL_law_1933 := dc_n1 aL_law_1932
theorem aL_law_1935 : dc_at cL_law 1935 sL_law_1935 := dc_n2 aL_law_1933
theorem aL_law_1936 : dc_at cL_law 1936 sL_law_1936 := dc_n1 aL_law_1935
theorem aL_law_1937 : dc_at cL_law 1937 sL_law_1937 := dc_n1 aL_law_1936
theorem aL_law_1938 : dc_at cL_law 1938 sL_law_1938 := dc_n1 aL_law_1937
theorem aL_law_1939 : dc_at cL_law 1939 sL_law_1939 := dc_n1 aL_law_1938
theorem aL_law_1941 : dc_at cL_law 1941 sL_law_1941 := dc_n2 aL_law_1939
theorem aL_law_1942 : dc_at cL_law 1942 sL_law_1942 := dc_n1 aL_law_1941
theorem aL_law_1943 : dc_at cL_law 1943 sL_law_1943 := dc_n1 aL_law_1942
theorem aL_law_1944 : dc_at cL_law 1944 sL_law_1944 := dc_n1 aL_law_1943
theorem aL_law_1945 : dc_at cL_law 1945 sL_law_1945 := dc_n1 aL_law_1944
theorem aL_law_1947 : dc_at cL_law 1947 sL_law_1947 := dc_n2 aL_law_1945
theorem aL_law_1948 : dc_at cL_law 1948 sL_law_1948 := dc_n1 aL_law_1947
theorem aL_law_1949 : dc_at cL_law 1949 sL_law_1949 := dc_n1 aL_law_1948
theorem aL_law_1950 : dc_at cL_law 1950 sL_law_1950 := dc_n1 aL_law_1949
theorem aL_law_1953 : dc_at cL_law 1953 sL_law_1953 := dc_n3 aL_law_1950
theorem aL_law_1955 : dc_at cL_law 1955 sL_law_1955 := dc_n2 aL_law_1953
theorem aL_law_1958 : dc_at cL_law 1958 sL_law_1958 := dc_n3 aL_law_1955
theorem aL_law_1959 : dc_at cL_law 1959 sL_law_1959 := dc_n1 aL_law_1958
theorem aL_law_1960 : dc_at cL_law 1960 sL_law_1960 := dc_n1 aL_law_1959
theorem aL_law_1962 : dc_at cL_law 1962 sL_law_1962 := dc_n2 aL_law_1960
theorem aL_law_1963 : dc_at cL_law 1963 sL_law_1963 := dc_n1 aL_law_1962
theorem aL_law_1964 : dc_at cL_law 1964 sL_law_1964 := dc_n1 aL_law_1963
theorem aL_law_1965 : dc_at cL_law 1965 sL_law_1965 := dc_n1 aL_law_1964
theorem aL_law_1966 : dc_at cL_law 1966 sL_law_1966 := dc_n1 aL_law_1965
theorem aL_law_1968 : dc_at cL_law 1968 sL_law_1968 := dc_n2 aL_law_1966
theorem aL_law_1969 : dc_at cL_law 1969 sL_law_1969 := dc_n1 aL_law_1968
theorem aL_law_1970 : dc_at cL_law 1970 sL_law_1970 := dc_n1 aL_law_1969
theorem aL_law_1971 : dc_at cL_law 1971 sL_law_1971 := dc_n1 aL_law_1970
theorem aL_law_1972 : dc_at cL_law 1972 sL_law_1972 := dc_n1 aL_law_1971
theorem aL_law_1975 : dc_at cL_law 1975 sL_law_1975 := dc_n3 aL_law_1972
theorem aL_law_1977 : dc_at cL_law 1977 sL_law_1977 := dc_n2 aL_law_1975
theorem aL_law_1978 : dc_at cL_law 1978 sL_law_1978 := dc_n1 aL_law_1977
theorem aL_law_1979 : dc_at cL_law 1979 sL_law_1979 := dc_n1 aL_law_1978
theorem aL_law_1981 : dc_at cL_law 1981 sL_law_1981 := dc_n2 aL_law_1979
theorem aL_law_1982 : dc_at cL_law 1982 sL_law_1982 := dc_n1 aL_law_1981
theorem aL_law_1983 : dc_at cL_law 1983 sL_law_1983 := dc_n1 aL_law_1982
theorem aL_law_1984 : dc_at cL_law 1984 sL_law_1984 := dc_n1 aL_law_1983
theorem aL_law_1985 : dc_at cL_law 1985 sL_law_1985 := dc_n1 aL_law_1984
theorem aL_law_1987 : dc_at cL_law 1987 sL_law_1987 := dc_n2 aL_law_1985
theorem aL_law_1988 : dc_at cL_law 1988 sL_law_1988 := dc_n1 aL_law_1987
theorem aL_law_1989 : dc_at cL_law 1989 sL_law_1989 := dc_n1 aL_law_1988
theorem aL_law_1990 : dc_at cL_law 1990 sL_law_1990 := dc_n1 aL_law_1989
theorem aL_law_1993 : dc_at cL_law 1993 sL_law_1993 := dc_n3 aL_law_1990
theorem aL_law_1995 : dc_at cL_law 1995 sL_law_1995 := dc_n2 aL_law_1993
theorem aL_law_1998 : dc_at cL_law 1998 sL_law_1998 := dc_n3 aL_law_1995
theorem aL_law_1999 : dc_at cL_law 1999 sL_law_1999 := dc_n1 aL_law_1998
theorem aL_law_2000 : dc_at cL_law 2000 sL_law_2000 := dc_n1 aL_law_1999
theorem aL_law_2002 : dc_at cL_law 2002 sL_law_2002 := dc_n2 aL_law_2000
theorem aL_law_2003 : dc_at cL_law 2003 sL_law_2003 := dc_n1 aL_law_2002
theorem aL_law_2004 : dc_at cL_law 2004 sL_law_2004 := dc_n1 aL_law_2003
theorem aL_law_2005 : dc_at cL_law 2005 sL_law_2005 := dc_n1 aL_law_2004
theorem aL_law_2006 : dc_at cL_law 2006 sL_law_2006 := dc_n1 aL_law_2005
theorem aL_law_2009 : dc_at cL_law 2009 sL_law_2009 := dc_n3 aL_law_2006
theorem aL_law_2011 : dc_at cL_law 2011 sL_law_2011 := dc_n2 aL_law_2009
theorem aL_law_2012 : dc_at cL_law 2012 sL_law_2012 := dc_n1 aL_law_2011
theorem aL_law_2013 : dc_at cL_law 2013 sL_law_2013 := dc_n1 aL_law_2012
theorem aL_law_2015 : dc_at cL_law 2015 sL_law_2015 := dc_n2 aL_law_2013
theorem aL_law_2016 : dc_at cL_law 2016 sL_law_2016 := dc_n1 aL_law_2015
theorem aL_law_2017 : dc_at cL_law 2017 sL_law_2017 := dc_n1 aL_law_2016
theorem aL_law_2018 : dc_at cL_law 2018 sL_law_2018 := dc_n1 aL_law_2017
theorem aL_law_2021 : dc_at cL_law 2021 sL_law_2021 := dc_n3 aL_law_2018
theorem aL_law_2023 : dc_at cL_law 2023 sL_law_2023 := dc_n2 aL_law_2021
theorem aL_law_2026 : dc_at cL_law 2026 sL_law_2026 := dc_n3 aL_law_2023
theorem aL_law_2027 : dc_at cL_law 2027 sL_law_2027 := dc_n1 aL_law_2026
theorem aL_law_2028 : dc_at cL_law 2028 sL_law_2028 := dc_n1 aL_law_2027
theorem aL_law_2030 : dc_at cL_law 2030 sL_law_2030 := dc_n2 aL_law_2028
theorem aL_law_2031 : dc_at cL_law 2031 sL_law_2031 := dc_n1 aL_law_2030
theorem aL_law_2032 : dc_at cL_law 2032 sL_law_2032 := dc_n1 aL_law_2031
theorem aL_law_2033 : dc_at cL_law 2033 sL_law_2033 := dc_n1 aL_law_2032
theorem aL_law_2034 : dc_at cL_law 2034 sL_law_2034 := dc_n1 aL_law_2033
theorem aL_law_2036 : dc_at cL_law 2036 sL_law_2036 := dc_n2 aL_law_2034
theorem aL_law_2037 : dc_at cL_law 2037 sL_law_2037 := dc_n1 aL_law_2036
theorem aL_law_2038 : dc_at cL_law 2038 sL_law_2038 := dc_n1 aL_law_2037
theorem aL_law_2039 : dc_at cL_law 2039 sL_law_2039 := dc_n1 aL_law_2038
theorem aL_law_2040 : dc_at cL_law 2040 sL_law_2040 := dc_n1 aL_law_2039
theorem aL_law_2043 : dc_at cL_law 2043 sL_law_2043 := dc_n3 aL_law_2040
theorem aL_law_2045 : dc_at cL_law 2045 sL_law_2045 := dc_n2 aL_law_2043
theorem aL_law_2046 : dc_at cL_law 2046 sL_law_2046 := dc_n1 aL_law_2045
theorem aL_law_2047 : dc_at cL_law 2047 sL_law_2047 := dc_n1 aL_law_2046
theorem aL_law_2049 : dc_at cL_law 2049 sL_law_2049 := dc_n2 aL_law_2047
theorem aL_law_2050 : dc_at cL_law 2050 sL_law_2050 := dc_n1 aL_law_2049
theorem aL_law_2051 : dc_at cL_law 2051 sL_law_2051 := dc_n1 aL_law_2050
theorem aL_law_2052 : dc_at cL_law 2052 sL_law_2052 := dc_n1 aL_law_2051
theorem aL_law_2053 : dc_at cL_law 2053 sL_law_2053 := dc_n1 aL_law_2052
theorem aL_law_2055 : dc_at cL_law 2055 sL_law_2055 := dc_n2 aL_law_2053
theorem aL_law_2056 : dc_at cL_law 2056 sL_law_2056 := dc_n1 aL_law_2055
theorem aL_law_2057 : dc_at cL_law 2057 sL_law_2057 := dc_n1 aL_law_2056
theorem aL_law_2058 : dc_at cL_law 2058 sL_law_2058 := dc_n1 aL_law_2057
theorem aL_law_2061 : dc_at cL_law 2061 sL_law_2061 := dc_n3 aL_law_2058
theorem aL_law_2063 : dc_at cL_law 2063 sL_law_2063 := dc_n2 aL_law_2061
theorem aL_law_2066 : dc_at cL_law 2066 sL_law_2066 := dc_n3 aL_law_2063
theorem aL_law_2069 : dc_at cL_law 2069 sL_law_2069 := dc_n3 aL_law_2066
theorem aL_law_2072 : dc_at cL_law 2072 sL_law_2072 := dc_n3 aL_law_2069
theorem aL_law_2073 : dc_at cL_law 2073 sL_law_2073 := dc_n1 aL_law_2072
theorem dL_law_0 : decode cL_law 0 = .ok (.new 8, 3) := dc_187 (a0 := 0) (b0 := 8) aL_law_0
theorem dL_law_3 : decode cL_law 3 = .ok (.dup, 1) := dc_89 aL_law_3
theorem dL_law_4 : decode cL_law 4 = .ok (.invokespecial 126, 3) := dc_183 (a0 := 0) (b0 := 126) aL_law_4
theorem dL_law_7 : decode cL_law 7 = .ok (.astore_n 1, 1) := dc_76 aL_law_7
theorem dL_law_8 : decode cL_law 8 = .ok (.new 127, 3) := dc_187 (a0 := 0) (b0 := 127) aL_law_8
theorem dL_law_11 : decode cL_law 11 = .ok (.dup, 1) := dc_89 aL_law_11
theorem dL_law_12 : decode cL_law 12 = .ok (.invokespecial 129, 3) := dc_183 (a0 := 0) (b0 := 129) aL_law_12
theorem dL_law_15 : decode cL_law 15 = .ok (.astore_n 2, 1) := dc_77 aL_law_15
theorem dL_law_16 : decode cL_law 16 = .ok (.iconst 1, 1) := dc_4 aL_law_16
theorem dL_law_17 : decode cL_law 17 = .ok (.newarray .long, 2) := dc_188_11 aL_law_17
theorem dL_law_19 : decode cL_law 19 = .ok (.astore_n 3, 1) := dc_78 aL_law_19
theorem dL_law_20 : decode cL_law 20 = .ok (.iconst 0, 1) := dc_3 aL_law_20
theorem dL_law_21 : decode cL_law 21 = .ok (.istore 4, 2) := dc_54 (a0 := 4) aL_law_21
theorem dL_law_23 : decode cL_law 23 = .ok (.iload 4, 2) := dc_21 (a0 := 4) aL_law_23
theorem dL_law_25 : decode cL_law 25 = .ok (.aload_n 0, 1) := dc_42 aL_law_25
theorem dL_law_26 : decode cL_law 26 = .ok (.arraylength, 1) := dc_190 aL_law_26
theorem dL_law_27 : decode cL_law 27 = .ok (.bipush 6, 2) := dc_16 (a0 := 6) aL_law_27 (by decide)
theorem dL_law_29 : decode cL_law 29 = .ok (.isub, 1) := dc_100 aL_law_29
theorem dL_law_30 : decode cL_law 30 = .ok (.if_icmp .gt 2042, 3) := dc_163 (a0 := 7) (b0 := 250) aL_law_30 (by decide)
theorem dL_law_33 : decode cL_law 33 = .ok (.aload_n 0, 1) := dc_42 aL_law_33
theorem dL_law_34 : decode cL_law 34 = .ok (.iload 4, 2) := dc_21 (a0 := 4) aL_law_34
theorem dL_law_36 : decode cL_law 36 = .ok (.iaload, 1) := dc_46 aL_law_36
theorem dL_law_37 : decode cL_law 37 = .ok (.bipush 63, 2) := dc_16 (a0 := 63) aL_law_37 (by decide)
theorem dL_law_39 : decode cL_law 39 = .ok (.iand, 1) := dc_126 aL_law_39
theorem dL_law_40 : decode cL_law 40 = .ok (.tableswitch 2026 0 39 #[176, 249, 277, 329, 342, 370, 422, 502, 566, 642, 670, 746, 810, 850, 902, 942, 994, 1058, 1122, 1174, 1214, 1275, 1303, 1331, 1344, 1357, 1433, 1497, 1549, 1589, 1641, 1681, 1733, 1785, 1825, 1838, 1866, 1918, 1958, 1986], 176) := by decide +kernel
theorem dL_law_216 : decode cL_law 216 = .ok (.aload_n 1, 1) := dc_43 aL_law_216
theorem dL_law_217 : decode cL_law 217 = .ok (.aload_n 0, 1) := dc_42 aL_law_217
theorem dL_law_218 : decode cL_law 218 = .ok (.iload 4, 2) := dc_21 (a0 := 4) aL_law_218
theorem dL_law_220 : decode cL_law 220 = .ok (.iconst 1, 1) := dc_4 aL_law_220
theorem dL_law_221 : decode cL_law 221 = .ok (.iadd, 1) := dc_96 aL_law_221
theorem dL_law_222 : decode cL_law 222 = .ok (.iaload, 1) := dc_46 aL_law_222
theorem dL_law_223 : decode cL_law 223 = .ok (.aload_n 0, 1) := dc_42 aL_law_223
theorem dL_law_224 : decode cL_law 224 = .ok (.iload 4, 2) := dc_21 (a0 := 4) aL_law_224
theorem dL_law_226 : decode cL_law 226 = .ok (.iconst 2, 1) := dc_5 aL_law_226
theorem dL_law_227 : decode cL_law 227 = .ok (.iadd, 1) := dc_96 aL_law_227
theorem dL_law_228 : decode cL_law 228 = .ok (.iaload, 1) := dc_46 aL_law_228
theorem dL_law_229 : decode cL_law 229 = .ok (.aload_n 0, 1) := dc_42 aL_law_229
theorem dL_law_230 : decode cL_law 230 = .ok (.iload 4, 2) := dc_21 (a0 := 4) aL_law_230
theorem dL_law_232 : decode cL_law 232 = .ok (.iconst 3, 1) := dc_6 aL_law_232
theorem dL_law_233 : decode cL_law 233 = .ok (.iadd, 1) := dc_96 aL_law_233
theorem dL_law_234 : decode cL_law 234 = .ok (.iaload, 1) := dc_46 aL_law_234
theorem dL_law_235 : decode cL_law 235 = .ok (.aload_n 0, 1) := dc_42 aL_law_235
theorem dL_law_236 : decode cL_law 236 = .ok (.iload 4, 2) := dc_21 (a0 := 4) aL_law_236
theorem dL_law_238 : decode cL_law 238 = .ok (.iconst 4, 1) := dc_7 aL_law_238
theorem dL_law_239 : decode cL_law 239 = .ok (.iadd, 1) := dc_96 aL_law_239
theorem dL_law_240 : decode cL_law 240 = .ok (.iaload, 1) := dc_46 aL_law_240
theorem dL_law_241 : decode cL_law 241 = .ok (.aload_n 0, 1) := dc_42 aL_law_241
theorem dL_law_242 : decode cL_law 242 = .ok (.iload 4, 2) := dc_21 (a0 := 4) aL_law_242
theorem dL_law_244 : decode cL_law 244 = .ok (.iconst 5, 1) := dc_8 aL_law_244
theorem dL_law_245 : decode cL_law 245 = .ok (.iadd, 1) := dc_96 aL_law_245
theorem dL_law_246 : decode cL_law 246 = .ok (.iaload, 1) := dc_46 aL_law_246
theorem dL_law_247 : decode cL_law 247 = .ok (.invokevirtual 130, 3) := dc_182 (a0 := 0) (b0 := 130) aL_law_247
theorem dL_law_250 : decode cL_law 250 = .ok (.pop, 1) := dc_87 aL_law_250
theorem dL_law_251 : decode cL_law 251 = .ok (.aload_n 2, 1) := dc_44 aL_law_251
theorem dL_law_252 : decode cL_law 252 = .ok (.aload_n 0, 1) := dc_42 aL_law_252
theorem dL_law_253 : decode cL_law 253 = .ok (.iload 4, 2) := dc_21 (a0 := 4) aL_law_253
theorem dL_law_255 : decode cL_law 255 = .ok (.iconst 1, 1) := dc_4 aL_law_255
theorem dL_law_256 : decode cL_law 256 = .ok (.iadd, 1) := dc_96 aL_law_256
theorem dL_law_257 : decode cL_law 257 = .ok (.iaload, 1) := dc_46 aL_law_257
theorem dL_law_258 : decode cL_law 258 = .ok (.aload_n 0, 1) := dc_42 aL_law_258
theorem dL_law_259 : decode cL_law 259 = .ok (.iload 4, 2) := dc_21 (a0 := 4) aL_law_259
theorem dL_law_261 : decode cL_law 261 = .ok (.iconst 2, 1) := dc_5 aL_law_261
theorem dL_law_262 : decode cL_law 262 = .ok (.iadd, 1) := dc_96 aL_law_262
theorem dL_law_263 : decode cL_law 263 = .ok (.iaload, 1) := dc_46 aL_law_263
theorem dL_law_264 : decode cL_law 264 = .ok (.aload_n 0, 1) := dc_42 aL_law_264
theorem dL_law_265 : decode cL_law 265 = .ok (.iload 4, 2) := dc_21 (a0 := 4) aL_law_265
theorem dL_law_267 : decode cL_law 267 = .ok (.iconst 3, 1) := dc_6 aL_law_267
theorem dL_law_268 : decode cL_law 268 = .ok (.iadd, 1) := dc_96 aL_law_268
theorem dL_law_269 : decode cL_law 269 = .ok (.iaload, 1) := dc_46 aL_law_269
theorem dL_law_270 : decode cL_law 270 = .ok (.aload_n 0, 1) := dc_42 aL_law_270
theorem dL_law_271 : decode cL_law 271 = .ok (.iload 4, 2) := dc_21 (a0 := 4) aL_law_271
theorem dL_law_273 : decode cL_law 273 = .ok (.iconst 4, 1) := dc_7 aL_law_273
theorem dL_law_274 : decode cL_law 274 = .ok (.iadd, 1) := dc_96 aL_law_274
theorem dL_law_275 : decode cL_law 275 = .ok (.iaload, 1) := dc_46 aL_law_275
theorem dL_law_276 : decode cL_law 276 = .ok (.aload_n 0, 1) := dc_42 aL_law_276
theorem dL_law_277 : decode cL_law 277 = .ok (.iload 4, 2) := dc_21 (a0 := 4) aL_law_277
theorem dL_law_279 : decode cL_law 279 = .ok (.iconst 5, 1) := dc_8 aL_law_279
theorem dL_law_280 : decode cL_law 280 = .ok (.iadd, 1) := dc_96 aL_law_280
theorem dL_law_281 : decode cL_law 281 = .ok (.iaload, 1) := dc_46 aL_law_281
theorem dL_law_282 : decode cL_law 282 = .ok (.invokevirtual 133, 3) := dc_182 (a0 := 0) (b0 := 133) aL_law_282
theorem dL_law_285 : decode cL_law 285 = .ok (.pop, 1) := dc_87 aL_law_285
theorem dL_law_286 : decode cL_law 286 = .ok (.goto 1780, 3) := dc_167 (a0 := 6) (b0 := 244) aL_law_286 (by decide)
theorem dL_law_289 : decode cL_law 289 = .ok (.aload_n 1, 1) := dc_43 aL_law_289
theorem dL_law_290 : decode cL_law 290 = .ok (.aload_n 0, 1) := dc_42 aL_law_290
theorem dL_law_291 : decode cL_law 291 = .ok (.iload 4, 2) := dc_21 (a0 := 4) aL_law_291
theorem dL_law_293 : decode cL_law 293 = .ok (.iconst 1, 1) := dc_4 aL_law_293
theorem dL_law_294 : decode cL_law 294 = .ok (.iadd, 1) := dc_96 aL_law_294
theorem dL_law_295 : decode cL_law 295 = .ok (.iaload, 1) := dc_46 aL_law_295
theorem dL_law_296 : decode cL_law 296 = .ok (.aload_n 3, 1) := dc_45 aL_law_296
theorem dL_law_297 : decode cL_law 297 = .ok (.invokestatic 134, 3) := dc_184 (a0 := 0) (b0 := 134) aL_law_297
theorem dL_law_300 : decode cL_law 300 = .ok (.istore 5, 2) := dc_54 (a0 := 5) aL_law_300
theorem dL_law_302 : decode cL_law 302 = .ok (.aload_n 2, 1) := dc_44 aL_law_302
theorem dL_law_303 : decode cL_law 303 = .ok (.aload_n 0, 1) := dc_42 aL_law_303
theorem dL_law_304 : decode cL_law 304 = .ok (.iload 4, 2) := dc_21 (a0 := 4) aL_law_304
theorem dL_law_306 : decode cL_law 306 = .ok (.iconst 1, 1) := dc_4 aL_law_306
theorem dL_law_307 : decode cL_law 307 = .ok (.iadd, 1) := dc_96 aL_law_307
theorem dL_law_308 : decode cL_law 308 = .ok (.iaload, 1) := dc_46 aL_law_308
theorem dL_law_309 : decode cL_law 309 = .ok (.invokevirtual 139, 3) := dc_182 (a0 := 0) (b0 := 139) aL_law_309
theorem dL_law_312 : decode cL_law 312 = .ok (.istore 6, 2) := dc_54 (a0 := 6) aL_law_312
theorem dL_law_314 : decode cL_law 314 = .ok (.goto 1752, 3) := dc_167 (a0 := 6) (b0 := 216) aL_law_314 (by decide)
theorem dL_law_317 : decode cL_law 317 = .ok (.aload_n 1, 1) := dc_43 aL_law_317
theorem dL_law_318 : decode cL_law 318 = .ok (.aload_n 0, 1) := dc_42 aL_law_318
theorem dL_law_319 : decode cL_law 319 = .ok (.iload 4, 2) := dc_21 (a0 := 4) aL_law_319
theorem dL_law_321 : decode cL_law 321 = .ok (.iconst 1, 1) := dc_4 aL_law_321
theorem dL_law_322 : decode cL_law 322 = .ok (.iadd, 1) := dc_96 aL_law_322
theorem dL_law_323 : decode cL_law 323 = .ok (.iaload, 1) := dc_46 aL_law_323
theorem dL_law_324 : decode cL_law 324 = .ok (.aload_n 0, 1) := dc_42 aL_law_324
theorem dL_law_325 : decode cL_law 325 = .ok (.iload 4, 2) := dc_21 (a0 := 4) aL_law_325
theorem dL_law_327 : decode cL_law 327 = .ok (.iconst 2, 1) := dc_5 aL_law_327
theorem dL_law_328 : decode cL_law 328 = .ok (.iadd, 1) := dc_96 aL_law_328
theorem dL_law_329 : decode cL_law 329 = .ok (.iaload, 1) := dc_46 aL_law_329
theorem dL_law_330 : decode cL_law 330 = .ok (.aload_n 0, 1) := dc_42 aL_law_330
theorem dL_law_331 : decode cL_law 331 = .ok (.iload 4, 2) := dc_21 (a0 := 4) aL_law_331
theorem dL_law_333 : decode cL_law 333 = .ok (.iconst 3, 1) := dc_6 aL_law_333
theorem dL_law_334 : decode cL_law 334 = .ok (.iadd, 1) := dc_96 aL_law_334
theorem dL_law_335 : decode cL_law 335 = .ok (.iaload, 1) := dc_46 aL_law_335
theorem dL_law_336 : decode cL_law 336 = .ok (.aload_n 3, 1) := dc_45 aL_law_336
theorem dL_law_337 : decode cL_law 337 = .ok (.invokestatic 140, 3) := dc_184 (a0 := 0) (b0 := 140) aL_law_337
theorem dL_law_340 : decode cL_law 340 = .ok (.istore 5, 2) := dc_54 (a0 := 5) aL_law_340
theorem dL_law_342 : decode cL_law 342 = .ok (.aload_n 2, 1) := dc_44 aL_law_342
theorem dL_law_343 : decode cL_law 343 = .ok (.aload_n 0, 1) := dc_42 aL_law_343
theorem dL_law_344 : decode cL_law 344 = .ok (.iload 4, 2) := dc_21 (a0 := 4) aL_law_344
theorem dL_law_346 : decode cL_law 346 = .ok (.iconst 1, 1) := dc_4 aL_law_346
theorem dL_law_347 : decode cL_law 347 = .ok (.iadd, 1) := dc_96 aL_law_347
theorem dL_law_348 : decode cL_law 348 = .ok (.iaload, 1) := dc_46 aL_law_348
theorem dL_law_349 : decode cL_law 349 = .ok (.aload_n 0, 1) := dc_42 aL_law_349
theorem dL_law_350 : decode cL_law 350 = .ok (.iload 4, 2) := dc_21 (a0 := 4) aL_law_350
theorem dL_law_352 : decode cL_law 352 = .ok (.iconst 2, 1) := dc_5 aL_law_352
theorem dL_law_353 : decode cL_law 353 = .ok (.iadd, 1) := dc_96 aL_law_353
theorem dL_law_354 : decode cL_law 354 = .ok (.iaload, 1) := dc_46 aL_law_354
theorem dL_law_355 : decode cL_law 355 = .ok (.aload_n 0, 1) := dc_42 aL_law_355
theorem dL_law_356 : decode cL_law 356 = .ok (.iload 4, 2) := dc_21 (a0 := 4) aL_law_356
theorem dL_law_358 : decode cL_law 358 = .ok (.iconst 3, 1) := dc_6 aL_law_358
theorem dL_law_359 : decode cL_law 359 = .ok (.iadd, 1) := dc_96 aL_law_359
theorem dL_law_360 : decode cL_law 360 = .ok (.iaload, 1) := dc_46 aL_law_360
theorem dL_law_361 : decode cL_law 361 = .ok (.invokevirtual 143, 3) := dc_182 (a0 := 0) (b0 := 143) aL_law_361
theorem dL_law_364 : decode cL_law 364 = .ok (.istore 6, 2) := dc_54 (a0 := 6) aL_law_364
theorem dL_law_366 : decode cL_law 366 = .ok (.goto 1700, 3) := dc_167 (a0 := 6) (b0 := 164) aL_law_366 (by decide)
theorem dL_law_369 : decode cL_law 369 = .ok (.aload_n 1, 1) := dc_43 aL_law_369
theorem dL_law_370 : decode cL_law 370 = .ok (.invokevirtual 144, 3) := dc_182 (a0 := 0) (b0 := 144) aL_law_370
theorem dL_law_373 : decode cL_law 373 = .ok (.pop, 1) := dc_87 aL_law_373
theorem dL_law_374 : decode cL_law 374 = .ok (.aload_n 2, 1) := dc_44 aL_law_374
theorem dL_law_375 : decode cL_law 375 = .ok (.invokevirtual 148, 3) := dc_182 (a0 := 0) (b0 := 148) aL_law_375
theorem dL_law_378 : decode cL_law 378 = .ok (.pop, 1) := dc_87 aL_law_378
theorem dL_law_379 : decode cL_law 379 = .ok (.goto 1687, 3) := dc_167 (a0 := 6) (b0 := 151) aL_law_379 (by decide)
theorem dL_law_382 : decode cL_law 382 = .ok (.aload_n 1, 1) := dc_43 aL_law_382
theorem dL_law_383 : decode cL_law 383 = .ok (.aload_n 0, 1) := dc_42 aL_law_383
theorem dL_law_384 : decode cL_law 384 = .ok (.iload 4, 2) := dc_21 (a0 := 4) aL_law_384
theorem dL_law_386 : decode cL_law 386 = .ok (.iconst 1, 1) := dc_4 aL_law_386
theorem dL_law_387 : decode cL_law 387 = .ok (.iadd, 1) := dc_96 aL_law_387
theorem dL_law_388 : decode cL_law 388 = .ok (.iaload, 1) := dc_46 aL_law_388
theorem dL_law_389 : decode cL_law 389 = .ok (.aload_n 3, 1) := dc_45 aL_law_389
theorem dL_law_390 : decode cL_law 390 = .ok (.invokestatic 149, 3) := dc_184 (a0 := 0) (b0 := 149) aL_law_390
theorem dL_law_393 : decode cL_law 393 = .ok (.istore 5, 2) := dc_54 (a0 := 5) aL_law_393
theorem dL_law_395 : decode cL_law 395 = .ok (.aload_n 2, 1) := dc_44 aL_law_395
theorem dL_law_396 : decode cL_law 396 = .ok (.aload_n 0, 1) := dc_42 aL_law_396
theorem dL_law_397 : decode cL_law 397 = .ok (.iload 4, 2) := dc_21 (a0 := 4) aL_law_397
theorem dL_law_399 : decode cL_law 399 = .ok (.iconst 1, 1) := dc_4 aL_law_399
theorem dL_law_400 : decode cL_law 400 = .ok (.iadd, 1) := dc_96 aL_law_400
theorem dL_law_401 : decode cL_law 401 = .ok (.iaload, 1) := dc_46 aL_law_401
theorem dL_law_402 : decode cL_law 402 = .ok (.invokevirtual 151, 3) := dc_182 (a0 := 0) (b0 := 151) aL_law_402
theorem dL_law_405 : decode cL_law 405 = .ok (.istore 6, 2) := dc_54 (a0 := 6) aL_law_405
theorem dL_law_407 : decode cL_law 407 = .ok (.goto 1659, 3) := dc_167 (a0 := 6) (b0 := 123) aL_law_407 (by decide)
theorem dL_law_410 : decode cL_law 410 = .ok (.aload_n 1, 1) := dc_43 aL_law_410
theorem dL_law_411 : decode cL_law 411 = .ok (.aload_n 0, 1) := dc_42 aL_law_411
theorem dL_law_412 : decode cL_law 412 = .ok (.iload 4, 2) := dc_21 (a0 := 4) aL_law_412
theorem dL_law_414 : decode cL_law 414 = .ok (.iconst 1, 1) := dc_4 aL_law_414
theorem dL_law_415 : decode cL_law 415 = .ok (.iadd, 1) := dc_96 aL_law_415
theorem dL_law_416 : decode cL_law 416 = .ok (.iaload, 1) := dc_46 aL_law_416
theorem dL_law_417 : decode cL_law 417 = .ok (.aload_n 0, 1) := dc_42 aL_law_417
theorem dL_law_418 : decode cL_law 418 = .ok (.iload 4, 2) := dc_21 (a0 := 4) aL_law_418
theorem dL_law_420 : decode cL_law 420 = .ok (.iconst 2, 1) := dc_5 aL_law_420
theorem dL_law_421 : decode cL_law 421 = .ok (.iadd, 1) := dc_96 aL_law_421
theorem dL_law_422 : decode cL_law 422 = .ok (.iaload, 1) := dc_46 aL_law_422
theorem dL_law_423 : decode cL_law 423 = .ok (.aload_n 0, 1) := dc_42 aL_law_423
theorem dL_law_424 : decode cL_law 424 = .ok (.iload 4, 2) := dc_21 (a0 := 4) aL_law_424
theorem dL_law_426 : decode cL_law 426 = .ok (.iconst 3, 1) := dc_6 aL_law_426
theorem dL_law_427 : decode cL_law 427 = .ok (.iadd, 1) := dc_96 aL_law_427
theorem dL_law_428 : decode cL_law 428 = .ok (.iaload, 1) := dc_46 aL_law_428
theorem dL_law_429 : decode cL_law 429 = .ok (.aload_n 3, 1) := dc_45 aL_law_429
theorem dL_law_430 : decode cL_law 430 = .ok (.invokestatic 152, 3) := dc_184 (a0 := 0) (b0 := 152) aL_law_430
theorem dL_law_433 : decode cL_law 433 = .ok (.istore 5, 2) := dc_54 (a0 := 5) aL_law_433
theorem dL_law_435 : decode cL_law 435 = .ok (.aload_n 2, 1) := dc_44 aL_law_435
theorem dL_law_436 : decode cL_law 436 = .ok (.aload_n 0, 1) := dc_42 aL_law_436
theorem dL_law_437 : decode cL_law 437 = .ok (.iload 4, 2) := dc_21 (a0 := 4) aL_law_437
theorem dL_law_439 : decode cL_law 439 = .ok (.iconst 1, 1) := dc_4 aL_law_439
theorem dL_law_440 : decode cL_law 440 = .ok (.iadd, 1) := dc_96 aL_law_440
theorem dL_law_441 : decode cL_law 441 = .ok (.iaload, 1) := dc_46 aL_law_441
theorem dL_law_442 : decode cL_law 442 = .ok (.aload_n 0, 1) := dc_42 aL_law_442
theorem dL_law_443 : decode cL_law 443 = .ok (.iload 4, 2) := dc_21 (a0 := 4) aL_law_443
theorem dL_law_445 : decode cL_law 445 = .ok (.iconst 2, 1) := dc_5 aL_law_445
theorem dL_law_446 : decode cL_law 446 = .ok (.iadd, 1) := dc_96 aL_law_446
theorem dL_law_447 : decode cL_law 447 = .ok (.iaload, 1) := dc_46 aL_law_447
theorem dL_law_448 : decode cL_law 448 = .ok (.aload_n 0, 1) := dc_42 aL_law_448
theorem dL_law_449 : decode cL_law 449 = .ok (.iload 4, 2) := dc_21 (a0 := 4) aL_law_449
theorem dL_law_451 : decode cL_law 451 = .ok (.iconst 3, 1) := dc_6 aL_law_451
theorem dL_law_452 : decode cL_law 452 = .ok (.iadd, 1) := dc_96 aL_law_452
theorem dL_law_453 : decode cL_law 453 = .ok (.iaload, 1) := dc_46 aL_law_453
theorem dL_law_454 : decode cL_law 454 = .ok (.invokevirtual 154, 3) := dc_182 (a0 := 0) (b0 := 154) aL_law_454
theorem dL_law_457 : decode cL_law 457 = .ok (.istore 6, 2) := dc_54 (a0 := 6) aL_law_457
theorem dL_law_459 : decode cL_law 459 = .ok (.goto 1607, 3) := dc_167 (a0 := 6) (b0 := 71) aL_law_459 (by decide)
theorem dL_law_462 : decode cL_law 462 = .ok (.aload_n 1, 1) := dc_43 aL_law_462
theorem dL_law_463 : decode cL_law 463 = .ok (.aload_n 0, 1) := dc_42 aL_law_463
theorem dL_law_464 : decode cL_law 464 = .ok (.iload 4, 2) := dc_21 (a0 := 4) aL_law_464
theorem dL_law_466 : decode cL_law 466 = .ok (.iconst 1, 1) := dc_4 aL_law_466
theorem dL_law_467 : decode cL_law 467 = .ok (.iadd, 1) := dc_96 aL_law_467
theorem dL_law_468 : decode cL_law 468 = .ok (.iaload, 1) := dc_46 aL_law_468
theorem dL_law_469 : decode cL_law 469 = .ok (.aload_n 0, 1) := dc_42 aL_law_469
theorem dL_law_470 : decode cL_law 470 = .ok (.iload 4, 2) := dc_21 (a0 := 4) aL_law_470
theorem dL_law_472 : decode cL_law 472 = .ok (.iconst 2, 1) := dc_5 aL_law_472
theorem dL_law_473 : decode cL_law 473 = .ok (.iadd, 1) := dc_96 aL_law_473
theorem dL_law_474 : decode cL_law 474 = .ok (.iaload, 1) := dc_46 aL_law_474
theorem dL_law_475 : decode cL_law 475 = .ok (.aload_n 0, 1) := dc_42 aL_law_475
theorem dL_law_476 : decode cL_law 476 = .ok (.iload 4, 2) := dc_21 (a0 := 4) aL_law_476
theorem dL_law_478 : decode cL_law 478 = .ok (.iconst 3, 1) := dc_6 aL_law_478
theorem dL_law_479 : decode cL_law 479 = .ok (.iadd, 1) := dc_96 aL_law_479
theorem dL_law_480 : decode cL_law 480 = .ok (.iaload, 1) := dc_46 aL_law_480
theorem dL_law_481 : decode cL_law 481 = .ok (.aload_n 3, 1) := dc_45 aL_law_481
theorem dL_law_482 : decode cL_law 482 = .ok (.invokestatic 155, 3) := dc_184 (a0 := 0) (b0 := 155) aL_law_482
theorem dL_law_485 : decode cL_law 485 = .ok (.istore 5, 2) := dc_54 (a0 := 5) aL_law_485
theorem dL_law_487 : decode cL_law 487 = .ok (.aload_n 2, 1) := dc_44 aL_law_487
theorem dL_law_488 : decode cL_law 488 = .ok (.aload_n 0, 1) := dc_42 aL_law_488
theorem dL_law_489 : decode cL_law 489 = .ok (.iload 4, 2) := dc_21 (a0 := 4) aL_law_489
theorem dL_law_491 : decode cL_law 491 = .ok (.iconst 1, 1) := dc_4 aL_law_491
theorem dL_law_492 : decode cL_law 492 = .ok (.iadd, 1) := dc_96 aL_law_492
theorem dL_law_493 : decode cL_law 493 = .ok (.iaload, 1) := dc_46 aL_law_493
theorem dL_law_494 : decode cL_law 494 = .ok (.aload_n 0, 1) := dc_42 aL_law_494
theorem dL_law_495 : decode cL_law 495 = .ok (.iload 4, 2) := dc_21 (a0 := 4) aL_law_495
theorem dL_law_497 : decode cL_law 497 = .ok (.iconst 2, 1) := dc_5 aL_law_497
theorem dL_law_498 : decode cL_law 498 = .ok (.iadd, 1) := dc_96 aL_law_498
theorem dL_law_499 : decode cL_law 499 = .ok (.iaload, 1) := dc_46 aL_law_499
theorem dL_law_500 : decode cL_law 500 = .ok (.aload_n 0, 1) := dc_42 aL_law_500
theorem dL_law_501 : decode cL_law 501 = .ok (.iload 4, 2) := dc_21 (a0 := 4) aL_law_501
theorem dL_law_503 : decode cL_law 503 = .ok (.iconst 3, 1) := dc_6 aL_law_503
theorem dL_law_504 : decode cL_law 504 = .ok (.iadd, 1) := dc_96 aL_law_504
theorem dL_law_505 : decode cL_law 505 = .ok (.iaload, 1) := dc_46 aL_law_505
theorem dL_law_506 : decode cL_law 506 = .ok (.invokevirtual 157, 3) := dc_182 (a0 := 0) (b0 := 157) aL_law_506
theorem dL_law_509 : decode cL_law 509 = .ok (.istore 6, 2) := dc_54 (a0 := 6) aL_law_509
theorem dL_law_511 : decode cL_law 511 = .ok (.aload_n 2, 1) := dc_44 aL_law_511
theorem dL_law_512 : decode cL_law 512 = .ok (.invokevirtual 158, 3) := dc_182 (a0 := 0) (b0 := 158) aL_law_512
theorem dL_law_515 : decode cL_law 515 = .ok (.iload 5, 2) := dc_21 (a0 := 5) aL_law_515
theorem dL_law_517 : decode cL_law 517 = .ok (.if_icmp .eq 5, 3) := dc_159 (a0 := 0) (b0 := 5) aL_law_517 (by decide)
theorem dL_law_520 : decode cL_law 520 = .ok (.iconst 0, 1) := dc_3 aL_law_520
theorem dL_law_521 : decode cL_law 521 = .ok (.ireturn, 1) := dc_172 aL_law_521
theorem dL_law_522 : decode cL_law 522 = .ok (.iload 5, 2) := dc_21 (a0 := 5) aL_law_522
theorem dL_law_524 : decode cL_law 524 = .ok (.ifCond .ne 15, 3) := dc_154 (a0 := 0) (b0 := 15) aL_law_524 (by decide)
theorem dL_law_527 : decode cL_law 527 = .ok (.aload_n 3, 1) := dc_45 aL_law_527
theorem dL_law_528 : decode cL_law 528 = .ok (.iconst 0, 1) := dc_3 aL_law_528
theorem dL_law_529 : decode cL_law 529 = .ok (.laload, 1) := dc_47 aL_law_529
theorem dL_law_530 : decode cL_law 530 = .ok (.iload 6, 2) := dc_21 (a0 := 6) aL_law_530
theorem dL_law_532 : decode cL_law 532 = .ok (.i2l, 1) := dc_133 aL_law_532
theorem dL_law_533 : decode cL_law 533 = .ok (.lcmp, 1) := dc_148 aL_law_533
theorem dL_law_534 : decode cL_law 534 = .ok (.ifCond .eq 5, 3) := dc_153 (a0 := 0) (b0 := 5) aL_law_534 (by decide)
theorem dL_law_537 : decode cL_law 537 = .ok (.iconst 0, 1) := dc_3 aL_law_537
theorem dL_law_538 : decode cL_law 538 = .ok (.ireturn, 1) := dc_172 aL_law_538
theorem dL_law_539 : decode cL_law 539 = .ok (.goto 1527, 3) := dc_167 (a0 := 5) (b0 := 247) aL_law_539 (by decide)
theorem dL_law_542 : decode cL_law 542 = .ok (.aload_n 1, 1) := dc_43 aL_law_542
theorem dL_law_543 : decode cL_law 543 = .ok (.aload_n 0, 1) := dc_42 aL_law_543
theorem dL_law_544 : decode cL_law 544 = .ok (.iload 4, 2) := dc_21 (a0 := 4) aL_law_544
theorem dL_law_546 : decode cL_law 546 = .ok (.iconst 1, 1) := dc_4 aL_law_546
theorem dL_law_547 : decode cL_law 547 = .ok (.iadd, 1) := dc_96 aL_law_547
theorem dL_law_548 : decode cL_law 548 = .ok (.iaload, 1) := dc_46 aL_law_548
theorem dL_law_549 : decode cL_law 549 = .ok (.aload_n 0, 1) := dc_42 aL_law_549
theorem dL_law_550 : decode cL_law 550 = .ok (.iload 4, 2) := dc_21 (a0 := 4) aL_law_550
theorem dL_law_552 : decode cL_law 552 = .ok (.iconst 2, 1) := dc_5 aL_law_552
theorem dL_law_553 : decode cL_law 553 = .ok (.iadd, 1) := dc_96 aL_law_553
theorem dL_law_554 : decode cL_law 554 = .ok (.iaload, 1) := dc_46 aL_law_554
theorem dL_law_555 : decode cL_law 555 = .ok (.aload_n 0, 1) := dc_42 aL_law_555
theorem dL_law_556 : decode cL_law 556 = .ok (.iload 4, 2) := dc_21 (a0 := 4) aL_law_556
theorem dL_law_558 : decode cL_law 558 = .ok (.iconst 3, 1) := dc_6 aL_law_558
theorem dL_law_559 : decode cL_law 559 = .ok (.iadd, 1) := dc_96 aL_law_559
theorem dL_law_560 : decode cL_law 560 = .ok (.iaload, 1) := dc_46 aL_law_560
theorem dL_law_561 : decode cL_law 561 = .ok (.aload_n 0, 1) := dc_42 aL_law_561
theorem dL_law_562 : decode cL_law 562 = .ok (.iload 4, 2) := dc_21 (a0 := 4) aL_law_562
theorem dL_law_564 : decode cL_law 564 = .ok (.iconst 4, 1) := dc_7 aL_law_564
theorem dL_law_565 : decode cL_law 565 = .ok (.iadd, 1) := dc_96 aL_law_565
theorem dL_law_566 : decode cL_law 566 = .ok (.iaload, 1) := dc_46 aL_law_566
theorem dL_law_567 : decode cL_law 567 = .ok (.aload_n 3, 1) := dc_45 aL_law_567
theorem dL_law_568 : decode cL_law 568 = .ok (.invokestatic 161, 3) := dc_184 (a0 := 0) (b0 := 161) aL_law_568
theorem dL_law_571 : decode cL_law 571 = .ok (.istore 5, 2) := dc_54 (a0 := 5) aL_law_571
theorem dL_law_573 : decode cL_law 573 = .ok (.aload_n 2, 1) := dc_44 aL_law_573
theorem dL_law_574 : decode cL_law 574 = .ok (.aload_n 0, 1) := dc_42 aL_law_574
theorem dL_law_575 : decode cL_law 575 = .ok (.iload 4, 2) := dc_21 (a0 := 4) aL_law_575
theorem dL_law_577 : decode cL_law 577 = .ok (.iconst 1, 1) := dc_4 aL_law_577
theorem dL_law_578 : decode cL_law 578 = .ok (.iadd, 1) := dc_96 aL_law_578
theorem dL_law_579 : decode cL_law 579 = .ok (.iaload, 1) := dc_46 aL_law_579
theorem dL_law_580 : decode cL_law 580 = .ok (.aload_n 0, 1) := dc_42 aL_law_580
theorem dL_law_581 : decode cL_law 581 = .ok (.iload 4, 2) := dc_21 (a0 := 4) aL_law_581
theorem dL_law_583 : decode cL_law 583 = .ok (.iconst 2, 1) := dc_5 aL_law_583
theorem dL_law_584 : decode cL_law 584 = .ok (.iadd, 1) := dc_96 aL_law_584
theorem dL_law_585 : decode cL_law 585 = .ok (.iaload, 1) := dc_46 aL_law_585
theorem dL_law_586 : decode cL_law 586 = .ok (.aload_n 0, 1) := dc_42 aL_law_586
theorem dL_law_587 : decode cL_law 587 = .ok (.iload 4, 2) := dc_21 (a0 := 4) aL_law_587
theorem dL_law_589 : decode cL_law 589 = .ok (.iconst 3, 1) := dc_6 aL_law_589
theorem dL_law_590 : decode cL_law 590 = .ok (.iadd, 1) := dc_96 aL_law_590
theorem dL_law_591 : decode cL_law 591 = .ok (.iaload, 1) := dc_46 aL_law_591
theorem dL_law_592 : decode cL_law 592 = .ok (.aload_n 0, 1) := dc_42 aL_law_592
theorem dL_law_593 : decode cL_law 593 = .ok (.iload 4, 2) := dc_21 (a0 := 4) aL_law_593
theorem dL_law_595 : decode cL_law 595 = .ok (.iconst 4, 1) := dc_7 aL_law_595
theorem dL_law_596 : decode cL_law 596 = .ok (.iadd, 1) := dc_96 aL_law_596
theorem dL_law_597 : decode cL_law 597 = .ok (.iaload, 1) := dc_46 aL_law_597
theorem dL_law_598 : decode cL_law 598 = .ok (.invokevirtual 164, 3) := dc_182 (a0 := 0) (b0 := 164) aL_law_598
theorem dL_law_601 : decode cL_law 601 = .ok (.istore 6, 2) := dc_54 (a0 := 6) aL_law_601
theorem dL_law_603 : decode cL_law 603 = .ok (.goto 1463, 3) := dc_167 (a0 := 5) (b0 := 183) aL_law_603 (by decide)
theorem dL_law_606 : decode cL_law 606 = .ok (.aload_n 1, 1) := dc_43 aL_law_606
theorem dL_law_607 : decode cL_law 607 = .ok (.aload_n 0, 1) := dc_42 aL_law_607
theorem dL_law_608 : decode cL_law 608 = .ok (.iload 4, 2) := dc_21 (a0 := 4) aL_law_608
theorem dL_law_610 : decode cL_law 610 = .ok (.iconst 1, 1) := dc_4 aL_law_610
theorem dL_law_611 : decode cL_law 611 = .ok (.iadd, 1) := dc_96 aL_law_611
theorem dL_law_612 : decode cL_law 612 = .ok (.iaload, 1) := dc_46 aL_law_612
theorem dL_law_613 : decode cL_law 613 = .ok (.aload_n 0, 1) := dc_42 aL_law_613
theorem dL_law_614 : decode cL_law 614 = .ok (.iload 4, 2) := dc_21 (a0 := 4) aL_law_614
theorem dL_law_616 : decode cL_law 616 = .ok (.iconst 2, 1) := dc_5 aL_law_616
theorem dL_law_617 : decode cL_law 617 = .ok (.iadd, 1) := dc_96 aL_law_617
theorem dL_law_618 : decode cL_law 618 = .ok (.iaload, 1) := dc_46 aL_law_618
theorem dL_law_619 : decode cL_law 619 = .ok (.aload_n 0, 1) := dc_42 aL_law_619
theorem dL_law_620 : decode cL_law 620 = .ok (.iload 4, 2) := dc_21 (a0 := 4) aL_law_620
theorem dL_law_622 : decode cL_law 622 = .ok (.iconst 3, 1) := dc_6 aL_law_622
theorem dL_law_623 : decode cL_law 623 = .ok (.iadd, 1) := dc_96 aL_law_623
theorem dL_law_624 : decode cL_law 624 = .ok (.iaload, 1) := dc_46 aL_law_624
theorem dL_law_625 : decode cL_law 625 = .ok (.aload_n 0, 1) := dc_42 aL_law_625
theorem dL_law_626 : decode cL_law 626 = .ok (.iload 4, 2) := dc_21 (a0 := 4) aL_law_626
theorem dL_law_628 : decode cL_law 628 = .ok (.iconst 4, 1) := dc_7 aL_law_628
theorem dL_law_629 : decode cL_law 629 = .ok (.iadd, 1) := dc_96 aL_law_629
theorem dL_law_630 : decode cL_law 630 = .ok (.iaload, 1) := dc_46 aL_law_630
theorem dL_law_631 : decode cL_law 631 = .ok (.aload_n 0, 1) := dc_42 aL_law_631
theorem dL_law_632 : decode cL_law 632 = .ok (.iload 4, 2) := dc_21 (a0 := 4) aL_law_632
theorem dL_law_634 : decode cL_law 634 = .ok (.iconst 5, 1) := dc_8 aL_law_634
theorem dL_law_635 : decode cL_law 635 = .ok (.iadd, 1) := dc_96 aL_law_635
theorem dL_law_636 : decode cL_law 636 = .ok (.iaload, 1) := dc_46 aL_law_636
theorem dL_law_637 : decode cL_law 637 = .ok (.aload_n 3, 1) := dc_45 aL_law_637
theorem dL_law_638 : decode cL_law 638 = .ok (.invokestatic 165, 3) := dc_184 (a0 := 0) (b0 := 165) aL_law_638
theorem dL_law_641 : decode cL_law 641 = .ok (.istore 5, 2) := dc_54 (a0 := 5) aL_law_641
theorem dL_law_643 : decode cL_law 643 = .ok (.aload_n 2, 1) := dc_44 aL_law_643
theorem dL_law_644 : decode cL_law 644 = .ok (.aload_n 0, 1) := dc_42 aL_law_644
theorem dL_law_645 : decode cL_law 645 = .ok (.iload 4, 2) := dc_21 (a0 := 4) aL_law_645
theorem dL_law_647 : decode cL_law 647 = .ok (.iconst 1, 1) := dc_4 aL_law_647
theorem dL_law_648 : decode cL_law 648 = .ok (.iadd, 1) := dc_96 aL_law_648
theorem dL_law_649 : decode cL_law 649 = .ok (.iaload, 1) := dc_46 aL_law_649
theorem dL_law_650 : decode cL_law 650 = .ok (.aload_n 0, 1) := dc_42 aL_law_650
theorem dL_law_651 : decode cL_law 651 = .ok (.iload 4, 2) := dc_21 (a0 := 4) aL_law_651
theorem dL_law_653 : decode cL_law 653 = .ok (.iconst 2, 1) := dc_5 aL_law_653
theorem dL_law_654 : decode cL_law 654 = .ok (.iadd, 1) := dc_96 aL_law_654
theorem dL_law_655 : decode cL_law 655 = .ok (.iaload, 1) := dc_46 aL_law_655
theorem dL_law_656 : decode cL_law 656 = .ok (.aload_n 0, 1) := dc_42 aL_law_656
theorem dL_law_657 : decode cL_law 657 = .ok (.iload 4, 2) := dc_21 (a0 := 4) aL_law_657
theorem dL_law_659 : decode cL_law 659 = .ok (.iconst 3, 1) := dc_6 aL_law_659
theorem dL_law_660 : decode cL_law 660 = .ok (.iadd, 1) := dc_96 aL_law_660
theorem dL_law_661 : decode cL_law 661 = .ok (.iaload, 1) := dc_46 aL_law_661
theorem dL_law_662 : decode cL_law 662 = .ok (.aload_n 0, 1) := dc_42 aL_law_662
theorem dL_law_663 : decode cL_law 663 = .ok (.iload 4, 2) := dc_21 (a0 := 4) aL_law_663
theorem dL_law_665 : decode cL_law 665 = .ok (.iconst 4, 1) := dc_7 aL_law_665
theorem dL_law_666 : decode cL_law 666 = .ok (.iadd, 1) := dc_96 aL_law_666
theorem dL_law_667 : decode cL_law 667 = .ok (.iaload, 1) := dc_46 aL_law_667
theorem dL_law_668 : decode cL_law 668 = .ok (.aload_n 0, 1) := dc_42 aL_law_668
theorem dL_law_669 : decode cL_law 669 = .ok (.iload 4, 2) := dc_21 (a0 := 4) aL_law_669
theorem dL_law_671 : decode cL_law 671 = .ok (.iconst 5, 1) := dc_8 aL_law_671
theorem dL_law_672 : decode cL_law 672 = .ok (.iadd, 1) := dc_96 aL_law_672
theorem dL_law_673 : decode cL_law 673 = .ok (.iaload, 1) := dc_46 aL_law_673
theorem dL_law_674 : decode cL_law 674 = .ok (.invokevirtual 168, 3) := dc_182 (a0 := 0) (b0 := 168) aL_law_674
theorem dL_law_677 : decode cL_law 677 = .ok (.istore 6, 2) := dc_54 (a0 := 6) aL_law_677
theorem dL_law_679 : decode cL_law 679 = .ok (.goto 1387, 3) := dc_167 (a0 := 5) (b0 := 107) aL_law_679 (by decide)
theorem dL_law_682 : decode cL_law 682 = .ok (.aload_n 1, 1) := dc_43 aL_law_682
theorem dL_law_683 : decode cL_law 683 = .ok (.aload_n 0, 1) := dc_42 aL_law_683
theorem dL_law_684 : decode cL_law 684 = .ok (.iload 4, 2) := dc_21 (a0 := 4) aL_law_684
theorem dL_law_686 : decode cL_law 686 = .ok (.iconst 1, 1) := dc_4 aL_law_686
theorem dL_law_687 : decode cL_law 687 = .ok (.iadd, 1) := dc_96 aL_law_687
theorem dL_law_688 : decode cL_law 688 = .ok (.iaload, 1) := dc_46 aL_law_688
theorem dL_law_689 : decode cL_law 689 = .ok (.aload_n 3, 1) := dc_45 aL_law_689
theorem dL_law_690 : decode cL_law 690 = .ok (.invokestatic 169, 3) := dc_184 (a0 := 0) (b0 := 169) aL_law_690
theorem dL_law_693 : decode cL_law 693 = .ok (.istore 5, 2) := dc_54 (a0 := 5) aL_law_693
theorem dL_law_695 : decode cL_law 695 = .ok (.aload_n 2, 1) := dc_44 aL_law_695
theorem dL_law_696 : decode cL_law 696 = .ok (.aload_n 0, 1) := dc_42 aL_law_696
theorem dL_law_697 : decode cL_law 697 = .ok (.iload 4, 2) := dc_21 (a0 := 4) aL_law_697
theorem dL_law_699 : decode cL_law 699 = .ok (.iconst 1, 1) := dc_4 aL_law_699
theorem dL_law_700 : decode cL_law 700 = .ok (.iadd, 1) := dc_96 aL_law_700
theorem dL_law_701 : decode cL_law 701 = .ok (.iaload, 1) := dc_46 aL_law_701
theorem dL_law_702 : decode cL_law 702 = .ok (.invokevirtual 171, 3) := dc_182 (a0 := 0) (b0 := 171) aL_law_702
theorem dL_law_705 : decode cL_law 705 = .ok (.istore 6, 2) := dc_54 (a0 := 6) aL_law_705
theorem dL_law_707 : decode cL_law 707 = .ok (.goto 1359, 3) := dc_167 (a0 := 5) (b0 := 79) aL_law_707 (by decide)
theorem dL_law_710 : decode cL_law 710 = .ok (.aload_n 1, 1) := dc_43 aL_law_710
theorem dL_law_711 : decode cL_law 711 = .ok (.aload_n 0, 1) := dc_42 aL_law_711
theorem dL_law_712 : decode cL_law 712 = .ok (.iload 4, 2) := dc_21 (a0 := 4) aL_law_712
theorem dL_law_714 : decode cL_law 714 = .ok (.iconst 1, 1) := dc_4 aL_law_714
theorem dL_law_715 : decode cL_law 715 = .ok (.iadd, 1) := dc_96 aL_law_715
theorem dL_law_716 : decode cL_law 716 = .ok (.iaload, 1) := dc_46 aL_law_716
theorem dL_law_717 : decode cL_law 717 = .ok (.aload_n 0, 1) := dc_42 aL_law_717
theorem dL_law_718 : decode cL_law 718 = .ok (.iload 4, 2) := dc_21 (a0 := 4) aL_law_718
theorem dL_law_720 : decode cL_law 720 = .ok (.iconst 2, 1) := dc_5 aL_law_720
theorem dL_law_721 : decode cL_law 721 = .ok (.iadd, 1) := dc_96 aL_law_721
theorem dL_law_722 : decode cL_law 722 = .ok (.iaload, 1) := dc_46 aL_law_722
theorem dL_law_723 : decode cL_law 723 = .ok (.aload_n 0, 1) := dc_42 aL_law_723
theorem dL_law_724 : decode cL_law 724 = .ok (.iload 4, 2) := dc_21 (a0 := 4) aL_law_724
theorem dL_law_726 : decode cL_law 726 = .ok (.iconst 3, 1) := dc_6 aL_law_726
theorem dL_law_727 : decode cL_law 727 = .ok (.iadd, 1) := dc_96 aL_law_727
theorem dL_law_728 : decode cL_law 728 = .ok (.iaload, 1) := dc_46 aL_law_728
theorem dL_law_729 : decode cL_law 729 = .ok (.aload_n 0, 1) := dc_42 aL_law_729
theorem dL_law_730 : decode cL_law 730 = .ok (.iload 4, 2) := dc_21 (a0 := 4) aL_law_730
theorem dL_law_732 : decode cL_law 732 = .ok (.iconst 4, 1) := dc_7 aL_law_732
theorem dL_law_733 : decode cL_law 733 = .ok (.iadd, 1) := dc_96 aL_law_733
theorem dL_law_734 : decode cL_law 734 = .ok (.iaload, 1) := dc_46 aL_law_734
theorem dL_law_735 : decode cL_law 735 = .ok (.aload_n 0, 1) := dc_42 aL_law_735
theorem dL_law_736 : decode cL_law 736 = .ok (.iload 4, 2) := dc_21 (a0 := 4) aL_law_736
theorem dL_law_738 : decode cL_law 738 = .ok (.iconst 5, 1) := dc_8 aL_law_738
theorem dL_law_739 : decode cL_law 739 = .ok (.iadd, 1) := dc_96 aL_law_739
theorem dL_law_740 : decode cL_law 740 = .ok (.iaload, 1) := dc_46 aL_law_740
theorem dL_law_741 : decode cL_law 741 = .ok (.aload_n 3, 1) := dc_45 aL_law_741
theorem dL_law_742 : decode cL_law 742 = .ok (.invokestatic 172, 3) := dc_184 (a0 := 0) (b0 := 172) aL_law_742
theorem dL_law_745 : decode cL_law 745 = .ok (.istore 5, 2) := dc_54 (a0 := 5) aL_law_745
theorem dL_law_747 : decode cL_law 747 = .ok (.aload_n 2, 1) := dc_44 aL_law_747
theorem dL_law_748 : decode cL_law 748 = .ok (.aload_n 0, 1) := dc_42 aL_law_748
theorem dL_law_749 : decode cL_law 749 = .ok (.iload 4, 2) := dc_21 (a0 := 4) aL_law_749
theorem dL_law_751 : decode cL_law 751 = .ok (.iconst 1, 1) := dc_4 aL_law_751
theorem dL_law_752 : decode cL_law 752 = .ok (.iadd, 1) := dc_96 aL_law_752
theorem dL_law_753 : decode cL_law 753 = .ok (.iaload, 1) := dc_46 aL_law_753
theorem dL_law_754 : decode cL_law 754 = .ok (.aload_n 0, 1) := dc_42 aL_law_754
theorem dL_law_755 : decode cL_law 755 = .ok (.iload 4, 2) := dc_21 (a0 := 4) aL_law_755
theorem dL_law_757 : decode cL_law 757 = .ok (.iconst 2, 1) := dc_5 aL_law_757
theorem dL_law_758 : decode cL_law 758 = .ok (.iadd, 1) := dc_96 aL_law_758
theorem dL_law_759 : decode cL_law 759 = .ok (.iaload, 1) := dc_46 aL_law_759
theorem dL_law_760 : decode cL_law 760 = .ok (.aload_n 0, 1) := dc_42 aL_law_760
theorem dL_law_761 : decode cL_law 761 = .ok (.iload 4, 2) := dc_21 (a0 := 4) aL_law_761
theorem dL_law_763 : decode cL_law 763 = .ok (.iconst 3, 1) := dc_6 aL_law_763
theorem dL_law_764 : decode cL_law 764 = .ok (.iadd, 1) := dc_96 aL_law_764
theorem dL_law_765 : decode cL_law 765 = .ok (.iaload, 1) := dc_46 aL_law_765
theorem dL_law_766 : decode cL_law 766 = .ok (.aload_n 0, 1) := dc_42 aL_law_766
theorem dL_law_767 : decode cL_law 767 = .ok (.iload 4, 2) := dc_21 (a0 := 4) aL_law_767
theorem dL_law_769 : decode cL_law 769 = .ok (.iconst 4, 1) := dc_7 aL_law_769
theorem dL_law_770 : decode cL_law 770 = .ok (.iadd, 1) := dc_96 aL_law_770
theorem dL_law_771 : decode cL_law 771 = .ok (.iaload, 1) := dc_46 aL_law_771
theorem dL_law_772 : decode cL_law 772 = .ok (.aload_n 0, 1) := dc_42 aL_law_772
theorem dL_law_773 : decode cL_law 773 = .ok (.iload 4, 2) := dc_21 (a0 := 4) aL_law_773
theorem dL_law_775 : decode cL_law 775 = .ok (.iconst 5, 1) := dc_8 aL_law_775
theorem dL_law_776 : decode cL_law 776 = .ok (.iadd, 1) := dc_96 aL_law_776
theorem dL_law_777 : decode cL_law 777 = .ok (.iaload, 1) := dc_46 aL_law_777
theorem dL_law_778 : decode cL_law 778 = .ok (.invokevirtual 174, 3) := dc_182 (a0 := 0) (b0 := 174) aL_law_778
theorem dL_law_781 : decode cL_law 781 = .ok (.istore 6, 2) := dc_54 (a0 := 6) aL_law_781
theorem dL_law_783 : decode cL_law 783 = .ok (.goto 1283, 3) := dc_167 (a0 := 5) (b0 := 3) aL_law_783 (by decide)
theorem dL_law_786 : decode cL_law 786 = .ok (.aload_n 1, 1) := dc_43 aL_law_786
theorem dL_law_787 : decode cL_law 787 = .ok (.aload_n 0, 1) := dc_42 aL_law_787
theorem dL_law_788 : decode cL_law 788 = .ok (.iload 4, 2) := dc_21 (a0 := 4) aL_law_788
theorem dL_law_790 : decode cL_law 790 = .ok (.iconst 1, 1) := dc_4 aL_law_790
theorem dL_law_791 : decode cL_law 791 = .ok (.iadd, 1) := dc_96 aL_law_791
theorem dL_law_792 : decode cL_law 792 = .ok (.iaload, 1) := dc_46 aL_law_792
theorem dL_law_793 : decode cL_law 793 = .ok (.aload_n 0, 1) := dc_42 aL_law_793
theorem dL_law_794 : decode cL_law 794 = .ok (.iload 4, 2) := dc_21 (a0 := 4) aL_law_794
theorem dL_law_796 : decode cL_law 796 = .ok (.iconst 2, 1) := dc_5 aL_law_796
theorem dL_law_797 : decode cL_law 797 = .ok (.iadd, 1) := dc_96 aL_law_797
theorem dL_law_798 : decode cL_law 798 = .ok (.iaload, 1) := dc_46 aL_law_798
theorem dL_law_799 : decode cL_law 799 = .ok (.aload_n 0, 1) := dc_42 aL_law_799
theorem dL_law_800 : decode cL_law 800 = .ok (.iload 4, 2) := dc_21 (a0 := 4) aL_law_800
theorem dL_law_802 : decode cL_law 802 = .ok (.iconst 3, 1) := dc_6 aL_law_802
theorem dL_law_803 : decode cL_law 803 = .ok (.iadd, 1) := dc_96 aL_law_803
theorem dL_law_804 : decode cL_law 804 = .ok (.iaload, 1) := dc_46 aL_law_804
theorem dL_law_805 : decode cL_law 805 = .ok (.aload_n 0, 1) := dc_42 aL_law_805
theorem dL_law_806 : decode cL_law 806 = .ok (.iload 4, 2) := dc_21 (a0 := 4) aL_law_806
theorem dL_law_808 : decode cL_law 808 = .ok (.iconst 4, 1) := dc_7 aL_law_808
theorem dL_law_809 : decode cL_law 809 = .ok (.iadd, 1) := dc_96 aL_law_809
theorem dL_law_810 : decode cL_law 810 = .ok (.iaload, 1) := dc_46 aL_law_810
theorem dL_law_811 : decode cL_law 811 = .ok (.aload_n 3, 1) := dc_45 aL_law_811
theorem dL_law_812 : decode cL_law 812 = .ok (.invokestatic 175, 3) := dc_184 (a0 := 0) (b0 := 175) aL_law_812
theorem dL_law_815 : decode cL_law 815 = .ok (.istore 5, 2) := dc_54 (a0 := 5) aL_law_815
theorem dL_law_817 : decode cL_law 817 = .ok (.aload_n 2, 1) := dc_44 aL_law_817
theorem dL_law_818 : decode cL_law 818 = .ok (.aload_n 0, 1) := dc_42 aL_law_818
theorem dL_law_819 : decode cL_law 819 = .ok (.iload 4, 2) := dc_21 (a0 := 4) aL_law_819
theorem dL_law_821 : decode cL_law 821 = .ok (.iconst 1, 1) := dc_4 aL_law_821
theorem dL_law_822 : decode cL_law 822 = .ok (.iadd, 1) := dc_96 aL_law_822
theorem dL_law_823 : decode cL_law 823 = .ok (.iaload, 1) := dc_46 aL_law_823
theorem dL_law_824 : decode cL_law 824 = .ok (.aload_n 0, 1) := dc_42 aL_law_824
theorem dL_law_825 : decode cL_law 825 = .ok (.iload 4, 2) := dc_21 (a0 := 4) aL_law_825
theorem dL_law_827 : decode cL_law 827 = .ok (.iconst 2, 1) := dc_5 aL_law_827
theorem dL_law_828 : decode cL_law 828 = .ok (.iadd, 1) := dc_96 aL_law_828
theorem dL_law_829 : decode cL_law 829 = .ok (.iaload, 1) := dc_46 aL_law_829
theorem dL_law_830 : decode cL_law 830 = .ok (.aload_n 0, 1) := dc_42 aL_law_830
theorem dL_law_831 : decode cL_law 831 = .ok (.iload 4, 2) := dc_21 (a0 := 4) aL_law_831
theorem dL_law_833 : decode cL_law 833 = .ok (.iconst 3, 1) := dc_6 aL_law_833
theorem dL_law_834 : decode cL_law 834 = .ok (.iadd, 1) := dc_96 aL_law_834
theorem dL_law_835 : decode cL_law 835 = .ok (.iaload, 1) := dc_46 aL_law_835
theorem dL_law_836 : decode cL_law 836 = .ok (.aload_n 0, 1) := dc_42 aL_law_836
theorem dL_law_837 : decode cL_law 837 = .ok (.iload 4, 2) := dc_21 (a0 := 4) aL_law_837
theorem dL_law_839 : decode cL_law 839 = .ok (.iconst 4, 1) := dc_7 aL_law_839
theorem dL_law_840 : decode cL_law 840 = .ok (.iadd, 1) := dc_96 aL_law_840
theorem dL_law_841 : decode cL_law 841 = .ok (.iaload, 1) := dc_46 aL_law_841
theorem dL_law_842 : decode cL_law 842 = .ok (.invokevirtual 177, 3) := dc_182 (a0 := 0) (b0 := 177) aL_law_842
theorem dL_law_845 : decode cL_law 845 = .ok (.istore 6, 2) := dc_54 (a0 := 6) aL_law_845
theorem dL_law_847 : decode cL_law 847 = .ok (.goto 1219, 3) := dc_167 (a0 := 4) (b0 := 195) aL_law_847 (by decide)
theorem dL_law_850 : decode cL_law 850 = .ok (.aload_n 1, 1) := dc_43 aL_law_850
theorem dL_law_851 : decode cL_law 851 = .ok (.aload_n 0, 1) := dc_42 aL_law_851
theorem dL_law_852 : decode cL_law 852 = .ok (.iload 4, 2) := dc_21 (a0 := 4) aL_law_852
theorem dL_law_854 : decode cL_law 854 = .ok (.iconst 1, 1) := dc_4 aL_law_854
theorem dL_law_855 : decode cL_law 855 = .ok (.iadd, 1) := dc_96 aL_law_855
theorem dL_law_856 : decode cL_law 856 = .ok (.iaload, 1) := dc_46 aL_law_856
theorem dL_law_857 : decode cL_law 857 = .ok (.aload_n 0, 1) := dc_42 aL_law_857
theorem dL_law_858 : decode cL_law 858 = .ok (.iload 4, 2) := dc_21 (a0 := 4) aL_law_858
theorem dL_law_860 : decode cL_law 860 = .ok (.iconst 2, 1) := dc_5 aL_law_860
theorem dL_law_861 : decode cL_law 861 = .ok (.iadd, 1) := dc_96 aL_law_861
theorem dL_law_862 : decode cL_law 862 = .ok (.iaload, 1) := dc_46 aL_law_862
theorem dL_law_863 : decode cL_law 863 = .ok (.aload_n 3, 1) := dc_45 aL_law_863
theorem dL_law_864 : decode cL_law 864 = .ok (.invokestatic 178, 3) := dc_184 (a0 := 0) (b0 := 178) aL_law_864
theorem dL_law_867 : decode cL_law 867 = .ok (.istore 5, 2) := dc_54 (a0 := 5) aL_law_867
theorem dL_law_869 : decode cL_law 869 = .ok (.aload_n 2, 1) := dc_44 aL_law_869
theorem dL_law_870 : decode cL_law 870 = .ok (.aload_n 0, 1) := dc_42 aL_law_870
theorem dL_law_871 : decode cL_law 871 = .ok (.iload 4, 2) := dc_21 (a0 := 4) aL_law_871
theorem dL_law_873 : decode cL_law 873 = .ok (.iconst 1, 1) := dc_4 aL_law_873
theorem dL_law_874 : decode cL_law 874 = .ok (.iadd, 1) := dc_96 aL_law_874
theorem dL_law_875 : decode cL_law 875 = .ok (.iaload, 1) := dc_46 aL_law_875
theorem dL_law_876 : decode cL_law 876 = .ok (.aload_n 0, 1) := dc_42 aL_law_876
theorem dL_law_877 : decode cL_law 877 = .ok (.iload 4, 2) := dc_21 (a0 := 4) aL_law_877
theorem dL_law_879 : decode cL_law 879 = .ok (.iconst 2, 1) := dc_5 aL_law_879
theorem dL_law_880 : decode cL_law 880 = .ok (.iadd, 1) := dc_96 aL_law_880
theorem dL_law_881 : decode cL_law 881 = .ok (.iaload, 1) := dc_46 aL_law_881
theorem dL_law_882 : decode cL_law 882 = .ok (.invokevirtual 181, 3) := dc_182 (a0 := 0) (b0 := 181) aL_law_882
theorem dL_law_885 : decode cL_law 885 = .ok (.istore 6, 2) := dc_54 (a0 := 6) aL_law_885
theorem dL_law_887 : decode cL_law 887 = .ok (.goto 1179, 3) := dc_167 (a0 := 4) (b0 := 155) aL_law_887 (by decide)
theorem dL_law_890 : decode cL_law 890 = .ok (.aload_n 1, 1) := dc_43 aL_law_890
theorem dL_law_891 : decode cL_law 891 = .ok (.aload_n 0, 1) := dc_42 aL_law_891
theorem dL_law_892 : decode cL_law 892 = .ok (.iload 4, 2) := dc_21 (a0 := 4) aL_law_892
theorem dL_law_894 : decode cL_law 894 = .ok (.iconst 1, 1) := dc_4 aL_law_894
theorem dL_law_895 : decode cL_law 895 = .ok (.iadd, 1) := dc_96 aL_law_895
theorem dL_law_896 : decode cL_law 896 = .ok (.iaload, 1) := dc_46 aL_law_896
theorem dL_law_897 : decode cL_law 897 = .ok (.aload_n 0, 1) := dc_42 aL_law_897
theorem dL_law_898 : decode cL_law 898 = .ok (.iload 4, 2) := dc_21 (a0 := 4) aL_law_898
theorem dL_law_900 : decode cL_law 900 = .ok (.iconst 2, 1) := dc_5 aL_law_900
theorem dL_law_901 : decode cL_law 901 = .ok (.iadd, 1) := dc_96 aL_law_901
theorem dL_law_902 : decode cL_law 902 = .ok (.iaload, 1) := dc_46 aL_law_902
theorem dL_law_903 : decode cL_law 903 = .ok (.aload_n 0, 1) := dc_42 aL_law_903
theorem dL_law_904 : decode cL_law 904 = .ok (.iload 4, 2) := dc_21 (a0 := 4) aL_law_904
theorem dL_law_906 : decode cL_law 906 = .ok (.iconst 3, 1) := dc_6 aL_law_906
theorem dL_law_907 : decode cL_law 907 = .ok (.iadd, 1) := dc_96 aL_law_907
theorem dL_law_908 : decode cL_law 908 = .ok (.iaload, 1) := dc_46 aL_law_908
theorem dL_law_909 : decode cL_law 909 = .ok (.aload_n 3, 1) := dc_45 aL_law_909
theorem dL_law_910 : decode cL_law 910 = .ok (.invokestatic 182, 3) := dc_184 (a0 := 0) (b0 := 182) aL_law_910
theorem dL_law_913 : decode cL_law 913 = .ok (.istore 5, 2) := dc_54 (a0 := 5) aL_law_913
theorem dL_law_915 : decode cL_law 915 = .ok (.aload_n 2, 1) := dc_44 aL_law_915
theorem dL_law_916 : decode cL_law 916 = .ok (.aload_n 0, 1) := dc_42 aL_law_916
theorem dL_law_917 : decode cL_law 917 = .ok (.iload 4, 2) := dc_21 (a0 := 4) aL_law_917
theorem dL_law_919 : decode cL_law 919 = .ok (.iconst 1, 1) := dc_4 aL_law_919
theorem dL_law_920 : decode cL_law 920 = .ok (.iadd, 1) := dc_96 aL_law_920
theorem dL_law_921 : decode cL_law 921 = .ok (.iaload, 1) := dc_46 aL_law_921
theorem dL_law_922 : decode cL_law 922 = .ok (.aload_n 0, 1) := dc_42 aL_law_922
theorem dL_law_923 : decode cL_law 923 = .ok (.iload 4, 2) := dc_21 (a0 := 4) aL_law_923
theorem dL_law_925 : decode cL_law 925 = .ok (.iconst 2, 1) := dc_5 aL_law_925
theorem dL_law_926 : decode cL_law 926 = .ok (.iadd, 1) := dc_96 aL_law_926
theorem dL_law_927 : decode cL_law 927 = .ok (.iaload, 1) := dc_46 aL_law_927
theorem dL_law_928 : decode cL_law 928 = .ok (.aload_n 0, 1) := dc_42 aL_law_928
theorem dL_law_929 : decode cL_law 929 = .ok (.iload 4, 2) := dc_21 (a0 := 4) aL_law_929
theorem dL_law_931 : decode cL_law 931 = .ok (.iconst 3, 1) := dc_6 aL_law_931
theorem dL_law_932 : decode cL_law 932 = .ok (.iadd, 1) := dc_96 aL_law_932
theorem dL_law_933 : decode cL_law 933 = .ok (.iaload, 1) := dc_46 aL_law_933
theorem dL_law_934 : decode cL_law 934 = .ok (.invokevirtual 184, 3) := dc_182 (a0 := 0) (b0 := 184) aL_law_934
theorem dL_law_937 : decode cL_law 937 = .ok (.istore 6, 2) := dc_54 (a0 := 6) aL_law_937
theorem dL_law_939 : decode cL_law 939 = .ok (.goto 1127, 3) := dc_167 (a0 := 4) (b0 := 103) aL_law_939 (by decide)
theorem dL_law_942 : decode cL_law 942 = .ok (.aload_n 1, 1) := dc_43 aL_law_942
theorem dL_law_943 : decode cL_law 943 = .ok (.aload_n 0, 1) := dc_42 aL_law_943
theorem dL_law_944 : decode cL_law 944 = .ok (.iload 4, 2) := dc_21 (a0 := 4) aL_law_944
theorem dL_law_946 : decode cL_law 946 = .ok (.iconst 1, 1) := dc_4 aL_law_946
theorem dL_law_947 : decode cL_law 947 = .ok (.iadd, 1) := dc_96 aL_law_947
theorem dL_law_948 : decode cL_law 948 = .ok (.iaload, 1) := dc_46 aL_law_948
theorem dL_law_949 : decode cL_law 949 = .ok (.aload_n 0, 1) := dc_42 aL_law_949
theorem dL_law_950 : decode cL_law 950 = .ok (.iload 4, 2) := dc_21 (a0 := 4) aL_law_950
theorem dL_law_952 : decode cL_law 952 = .ok (.iconst 2, 1) := dc_5 aL_law_952
theorem dL_law_953 : decode cL_law 953 = .ok (.iadd, 1) := dc_96 aL_law_953
theorem dL_law_954 : decode cL_law 954 = .ok (.iaload, 1) := dc_46 aL_law_954
theorem dL_law_955 : decode cL_law 955 = .ok (.aload_n 3, 1) := dc_45 aL_law_955
theorem dL_law_956 : decode cL_law 956 = .ok (.invokestatic 185, 3) := dc_184 (a0 := 0) (b0 := 185) aL_law_956
theorem dL_law_959 : decode cL_law 959 = .ok (.istore 5, 2) := dc_54 (a0 := 5) aL_law_959
theorem dL_law_961 : decode cL_law 961 = .ok (.aload_n 2, 1) := dc_44 aL_law_961
theorem dL_law_962 : decode cL_law 962 = .ok (.aload_n 0, 1) := dc_42 aL_law_962
theorem dL_law_963 : decode cL_law 963 = .ok (.iload 4, 2) := dc_21 (a0 := 4) aL_law_963
theorem dL_law_965 : decode cL_law 965 = .ok (.iconst 1, 1) := dc_4 aL_law_965
theorem dL_law_966 : decode cL_law 966 = .ok (.iadd, 1) := dc_96 aL_law_966
theorem dL_law_967 : decode cL_law 967 = .ok (.iaload, 1) := dc_46 aL_law_967
theorem dL_law_968 : decode cL_law 968 = .ok (.aload_n 0, 1) := dc_42 aL_law_968
theorem dL_law_969 : decode cL_law 969 = .ok (.iload 4, 2) := dc_21 (a0 := 4) aL_law_969
theorem dL_law_971 : decode cL_law 971 = .ok (.iconst 2, 1) := dc_5 aL_law_971
theorem dL_law_972 : decode cL_law 972 = .ok (.iadd, 1) := dc_96 aL_law_972
theorem dL_law_973 : decode cL_law 973 = .ok (.iaload, 1) := dc_46 aL_law_973
theorem dL_law_974 : decode cL_law 974 = .ok (.invokevirtual 187, 3) := dc_182 (a0 := 0) (b0 := 187) aL_law_974
theorem dL_law_977 : decode cL_law 977 = .ok (.istore 6, 2) := dc_54 (a0 := 6) aL_law_977
theorem dL_law_979 : decode cL_law 979 = .ok (.goto 1087, 3) := dc_167 (a0 := 4) (b0 := 63) aL_law_979 (by decide)
theorem dL_law_982 : decode cL_law 982 = .ok (.aload_n 1, 1) := dc_43 aL_law_982
theorem dL_law_983 : decode cL_law 983 = .ok (.aload_n 0, 1) := dc_42 aL_law_983
theorem dL_law_984 : decode cL_law 984 = .ok (.iload 4, 2) := dc_21 (a0 := 4) aL_law_984
theorem dL_law_986 : decode cL_law 986 = .ok (.iconst 1, 1) := dc_4 aL_law_986
theorem dL_law_987 : decode cL_law 987 = .ok (.iadd, 1) := dc_96 aL_law_987
theorem dL_law_988 : decode cL_law 988 = .ok (.iaload, 1) := dc_46 aL_law_988
theorem dL_law_989 : decode cL_law 989 = .ok (.aload_n 0, 1) := dc_42 aL_law_989
theorem dL_law_990 : decode cL_law 990 = .ok (.iload 4, 2) := dc_21 (a0 := 4) aL_law_990
theorem dL_law_992 : decode cL_law 992 = .ok (.iconst 2, 1) := dc_5 aL_law_992
theorem dL_law_993 : decode cL_law 993 = .ok (.iadd, 1) := dc_96 aL_law_993
theorem dL_law_994 : decode cL_law 994 = .ok (.iaload, 1) := dc_46 aL_law_994
theorem dL_law_995 : decode cL_law 995 = .ok (.aload_n 0, 1) := dc_42 aL_law_995
theorem dL_law_996 : decode cL_law 996 = .ok (.iload 4, 2) := dc_21 (a0 := 4) aL_law_996
theorem dL_law_998 : decode cL_law 998 = .ok (.iconst 3, 1) := dc_6 aL_law_998
theorem dL_law_999 : decode cL_law 999 = .ok (.iadd, 1) := dc_96 aL_law_999
theorem dL_law_1000 : decode cL_law 1000 = .ok (.iaload, 1) := dc_46 aL_law_1000
theorem dL_law_1001 : decode cL_law 1001 = .ok (.aload_n 3, 1) := dc_45 aL_law_1001
theorem dL_law_1002 : decode cL_law 1002 = .ok (.invokestatic 188, 3) := dc_184 (a0 := 0) (b0 := 188) aL_law_1002
theorem dL_law_1005 : decode cL_law 1005 = .ok (.istore 5, 2) := dc_54 (a0 := 5) aL_law_1005
theorem dL_law_1007 : decode cL_law 1007 = .ok (.aload_n 2, 1) := dc_44 aL_law_1007
theorem dL_law_1008 : decode cL_law 1008 = .ok (.aload_n 0, 1) := dc_42 aL_law_1008
theorem dL_law_1009 : decode cL_law 1009 = .ok (.iload 4, 2) := dc_21 (a0 := 4) aL_law_1009
theorem dL_law_1011 : decode cL_law 1011 = .ok (.iconst 1, 1) := dc_4 aL_law_1011
theorem dL_law_1012 : decode cL_law 1012 = .ok (.iadd, 1) := dc_96 aL_law_1012
theorem dL_law_1013 : decode cL_law 1013 = .ok (.iaload, 1) := dc_46 aL_law_1013
theorem dL_law_1014 : decode cL_law 1014 = .ok (.aload_n 0, 1) := dc_42 aL_law_1014
theorem dL_law_1015 : decode cL_law 1015 = .ok (.iload 4, 2) := dc_21 (a0 := 4) aL_law_1015
theorem dL_law_1017 : decode cL_law 1017 = .ok (.iconst 2, 1) := dc_5 aL_law_1017
theorem dL_law_1018 : decode cL_law 1018 = .ok (.iadd, 1) := dc_96 aL_law_1018
theorem dL_law_1019 : decode cL_law 1019 = .ok (.iaload, 1) := dc_46 aL_law_1019
theorem dL_law_1020 : decode cL_law 1020 = .ok (.aload_n 0, 1) := dc_42 aL_law_1020
theorem dL_law_1021 : decode cL_law 1021 = .ok (.iload 4, 2) := dc_21 (a0 := 4) aL_law_1021
theorem dL_law_1023 : decode cL_law 1023 = .ok (.iconst 3, 1) := dc_6 aL_law_1023
theorem dL_law_1024 : decode cL_law 1024 = .ok (.iadd, 1) := dc_96 aL_law_1024
theorem dL_law_1025 : decode cL_law 1025 = .ok (.iaload, 1) := dc_46 aL_law_1025
theorem dL_law_1026 : decode cL_law 1026 = .ok (.invokevirtual 190, 3) := dc_182 (a0 := 0) (b0 := 190) aL_law_1026
theorem dL_law_1029 : decode cL_law 1029 = .ok (.istore 6, 2) := dc_54 (a0 := 6) aL_law_1029
theorem dL_law_1031 : decode cL_law 1031 = .ok (.goto 1035, 3) := dc_167 (a0 := 4) (b0 := 11) aL_law_1031 (by decide)
theorem dL_law_1034 : decode cL_law 1034 = .ok (.aload_n 1, 1) := dc_43 aL_law_1034
theorem dL_law_1035 : decode cL_law 1035 = .ok (.aload_n 0, 1) := dc_42 aL_law_1035
theorem dL_law_1036 : decode cL_law 1036 = .ok (.iload 4, 2) := dc_21 (a0 := 4) aL_law_1036
theorem dL_law_1038 : decode cL_law 1038 = .ok (.iconst 1, 1) := dc_4 aL_law_1038
theorem dL_law_1039 : decode cL_law 1039 = .ok (.iadd, 1) := dc_96 aL_law_1039
theorem dL_law_1040 : decode cL_law 1040 = .ok (.iaload, 1) := dc_46 aL_law_1040
theorem dL_law_1041 : decode cL_law 1041 = .ok (.aload_n 0, 1) := dc_42 aL_law_1041
theorem dL_law_1042 : decode cL_law 1042 = .ok (.iload 4, 2) := dc_21 (a0 := 4) aL_law_1042
theorem dL_law_1044 : decode cL_law 1044 = .ok (.iconst 2, 1) := dc_5 aL_law_1044
theorem dL_law_1045 : decode cL_law 1045 = .ok (.iadd, 1) := dc_96 aL_law_1045
theorem dL_law_1046 : decode cL_law 1046 = .ok (.iaload, 1) := dc_46 aL_law_1046
theorem dL_law_1047 : decode cL_law 1047 = .ok (.aload_n 0, 1) := dc_42 aL_law_1047
theorem dL_law_1048 : decode cL_law 1048 = .ok (.iload 4, 2) := dc_21 (a0 := 4) aL_law_1048
theorem dL_law_1050 : decode cL_law 1050 = .ok (.iconst 3, 1) := dc_6 aL_law_1050
theorem dL_law_1051 : decode cL_law 1051 = .ok (.iadd, 1) := dc_96 aL_law_1051
theorem dL_law_1052 : decode cL_law 1052 = .ok (.iaload, 1) := dc_46 aL_law_1052
theorem dL_law_1053 : decode cL_law 1053 = .ok (.aload_n 0, 1) := dc_42 aL_law_1053
theorem dL_law_1054 : decode cL_law 1054 = .ok (.iload 4, 2) := dc_21 (a0 := 4) aL_law_1054
theorem dL_law_1056 : decode cL_law 1056 = .ok (.iconst 4, 1) := dc_7 aL_law_1056
theorem dL_law_1057 : decode cL_law 1057 = .ok (.iadd, 1) := dc_96 aL_law_1057
theorem dL_law_1058 : decode cL_law 1058 = .ok (.iaload, 1) := dc_46 aL_law_1058
theorem dL_law_1059 : decode cL_law 1059 = .ok (.aload_n 3, 1) := dc_45 aL_law_1059
theorem dL_law_1060 : decode cL_law 1060 = .ok (.invokestatic 191, 3) := dc_184 (a0 := 0) (b0 := 191) aL_law_1060
theorem dL_law_1063 : decode cL_law 1063 = .ok (.istore 5, 2) := dc_54 (a0 := 5) aL_law_1063
theorem dL_law_1065 : decode cL_law 1065 = .ok (.aload_n 2, 1) := dc_44 aL_law_1065
theorem dL_law_1066 : decode cL_law 1066 = .ok (.aload_n 0, 1) := dc_42 aL_law_1066
theorem dL_law_1067 : decode cL_law 1067 = .ok (.iload 4, 2) := dc_21 (a0 := 4) aL_law_1067
theorem dL_law_1069 : decode cL_law 1069 = .ok (.iconst 1, 1) := dc_4 aL_law_1069
theorem dL_law_1070 : decode cL_law 1070 = .ok (.iadd, 1) := dc_96 aL_law_1070
theorem dL_law_1071 : decode cL_law 1071 = .ok (.iaload, 1) := dc_46 aL_law_1071
theorem dL_law_1072 : decode cL_law 1072 = .ok (.aload_n 0, 1) := dc_42 aL_law_1072
theorem dL_law_1073 : decode cL_law 1073 = .ok (.iload 4, 2) := dc_21 (a0 := 4) aL_law_1073
theorem dL_law_1075 : decode cL_law 1075 = .ok (.iconst 2, 1) := dc_5 aL_law_1075
theorem dL_law_1076 : decode cL_law 1076 = .ok (.iadd, 1) := dc_96 aL_law_1076
theorem dL_law_1077 : decode cL_law 1077 = .ok (.iaload, 1) := dc_46 aL_law_1077
theorem dL_law_1078 : decode cL_law 1078 = .ok (.aload_n 0, 1) := dc_42 aL_law_1078
theorem dL_law_1079 : decode cL_law 1079 = .ok (.iload 4, 2) := dc_21 (a0 := 4) aL_law_1079
theorem dL_law_1081 : decode cL_law 1081 = .ok (.iconst 3, 1) := dc_6 aL_law_1081
theorem dL_law_1082 : decode cL_law 1082 = .ok (.iadd, 1) := dc_96 aL_law_1082
theorem dL_law_1083 : decode cL_law 1083 = .ok (.iaload, 1) := dc_46 aL_law_1083
theorem dL_law_1084 : decode cL_law 1084 = .ok (.aload_n 0, 1) := dc_42 aL_law_1084
theorem dL_law_1085 : decode cL_law 1085 = .ok (.iload 4, 2) := dc_21 (a0 := 4) aL_law_1085
theorem dL_law_1087 : decode cL_law 1087 = .ok (.iconst 4, 1) := dc_7 aL_law_1087
theorem dL_law_1088 : decode cL_law 1088 = .ok (.iadd, 1) := dc_96 aL_law_1088
theorem dL_law_1089 : decode cL_law 1089 = .ok (.iaload, 1) := dc_46 aL_law_1089
theorem dL_law_1090 : decode cL_law 1090 = .ok (.invokevirtual 193, 3) := dc_182 (a0 := 0) (b0 := 193) aL_law_1090
theorem dL_law_1093 : decode cL_law 1093 = .ok (.istore 6, 2) := dc_54 (a0 := 6) aL_law_1093
theorem dL_law_1095 : decode cL_law 1095 = .ok (.goto 971, 3) := dc_167 (a0 := 3) (b0 := 203) aL_law_1095 (by decide)
theorem dL_law_1098 : decode cL_law 1098 = .ok (.aload_n 1, 1) := dc_43 aL_law_1098
theorem dL_law_1099 : decode cL_law 1099 = .ok (.aload_n 0, 1) := dc_42 aL_law_1099
theorem dL_law_1100 : decode cL_law 1100 = .ok (.iload 4, 2) := dc_21 (a0 := 4) aL_law_1100
theorem dL_law_1102 : decode cL_law 1102 = .ok (.iconst 1, 1) := dc_4 aL_law_1102
theorem dL_law_1103 : decode cL_law 1103 = .ok (.iadd, 1) := dc_96 aL_law_1103
theorem dL_law_1104 : decode cL_law 1104 = .ok (.iaload, 1) := dc_46 aL_law_1104
theorem dL_law_1105 : decode cL_law 1105 = .ok (.aload_n 0, 1) := dc_42 aL_law_1105
theorem dL_law_1106 : decode cL_law 1106 = .ok (.iload 4, 2) := dc_21 (a0 := 4) aL_law_1106
theorem dL_law_1108 : decode cL_law 1108 = .ok (.iconst 2, 1) := dc_5 aL_law_1108
theorem dL_law_1109 : decode cL_law 1109 = .ok (.iadd, 1) := dc_96 aL_law_1109
theorem dL_law_1110 : decode cL_law 1110 = .ok (.iaload, 1) := dc_46 aL_law_1110
theorem dL_law_1111 : decode cL_law 1111 = .ok (.aload_n 0, 1) := dc_42 aL_law_1111
theorem dL_law_1112 : decode cL_law 1112 = .ok (.iload 4, 2) := dc_21 (a0 := 4) aL_law_1112
theorem dL_law_1114 : decode cL_law 1114 = .ok (.iconst 3, 1) := dc_6 aL_law_1114
theorem dL_law_1115 : decode cL_law 1115 = .ok (.iadd, 1) := dc_96 aL_law_1115
theorem dL_law_1116 : decode cL_law 1116 = .ok (.iaload, 1) := dc_46 aL_law_1116
theorem dL_law_1117 : decode cL_law 1117 = .ok (.aload_n 0, 1) := dc_42 aL_law_1117
theorem dL_law_1118 : decode cL_law 1118 = .ok (.iload 4, 2) := dc_21 (a0 := 4) aL_law_1118
theorem dL_law_1120 : decode cL_law 1120 = .ok (.iconst 4, 1) := dc_7 aL_law_1120
theorem dL_law_1121 : decode cL_law 1121 = .ok (.iadd, 1) := dc_96 aL_law_1121
theorem dL_law_1122 : decode cL_law 1122 = .ok (.iaload, 1) := dc_46 aL_law_1122
theorem dL_law_1123 : decode cL_law 1123 = .ok (.aload_n 3, 1) := dc_45 aL_law_1123
theorem dL_law_1124 : decode cL_law 1124 = .ok (.invokestatic 194, 3) := dc_184 (a0 := 0) (b0 := 194) aL_law_1124
theorem dL_law_1127 : decode cL_law 1127 = .ok (.istore 5, 2) := dc_54 (a0 := 5) aL_law_1127
theorem dL_law_1129 : decode cL_law 1129 = .ok (.aload_n 2, 1) := dc_44 aL_law_1129
theorem dL_law_1130 : decode cL_law 1130 = .ok (.aload_n 0, 1) := dc_42 aL_law_1130
theorem dL_law_1131 : decode cL_law 1131 = .ok (.iload 4, 2) := dc_21 (a0 := 4) aL_law_1131
theorem dL_law_1133 : decode cL_law 1133 = .ok (.iconst 1, 1) := dc_4 aL_law_1133
theorem dL_law_1134 : decode cL_law 1134 = .ok (.iadd, 1) := dc_96 aL_law_1134
theorem dL_law_1135 : decode cL_law 1135 = .ok (.iaload, 1) := dc_46 aL_law_1135
theorem dL_law_1136 : decode cL_law 1136 = .ok (.aload_n 0, 1) := dc_42 aL_law_1136
theorem dL_law_1137 : decode cL_law 1137 = .ok (.iload 4, 2) := dc_21 (a0 := 4) aL_law_1137
theorem dL_law_1139 : decode cL_law 1139 = .ok (.iconst 2, 1) := dc_5 aL_law_1139
theorem dL_law_1140 : decode cL_law 1140 = .ok (.iadd, 1) := dc_96 aL_law_1140
theorem dL_law_1141 : decode cL_law 1141 = .ok (.iaload, 1) := dc_46 aL_law_1141
theorem dL_law_1142 : decode cL_law 1142 = .ok (.aload_n 0, 1) := dc_42 aL_law_1142
theorem dL_law_1143 : decode cL_law 1143 = .ok (.iload 4, 2) := dc_21 (a0 := 4) aL_law_1143
theorem dL_law_1145 : decode cL_law 1145 = .ok (.iconst 3, 1) := dc_6 aL_law_1145
theorem dL_law_1146 : decode cL_law 1146 = .ok (.iadd, 1) := dc_96 aL_law_1146
theorem dL_law_1147 : decode cL_law 1147 = .ok (.iaload, 1) := dc_46 aL_law_1147
theorem dL_law_1148 : decode cL_law 1148 = .ok (.aload_n 0, 1) := dc_42 aL_law_1148
theorem dL_law_1149 : decode cL_law 1149 = .ok (.iload 4, 2) := dc_21 (a0 := 4) aL_law_1149
theorem dL_law_1151 : decode cL_law 1151 = .ok (.iconst 4, 1) := dc_7 aL_law_1151
theorem dL_law_1152 : decode cL_law 1152 = .ok (.iadd, 1) := dc_96 aL_law_1152
theorem dL_law_1153 : decode cL_law 1153 = .ok (.iaload, 1) := dc_46 aL_law_1153
theorem dL_law_1154 : decode cL_law 1154 = .ok (.invokevirtual 196, 3) := dc_182 (a0 := 0) (b0 := 196) aL_law_1154
theorem dL_law_1157 : decode cL_law 1157 = .ok (.istore 6, 2) := dc_54 (a0 := 6) aL_law_1157
theorem dL_law_1159 : decode cL_law 1159 = .ok (.goto 907, 3) := dc_167 (a0 := 3) (b0 := 139) aL_law_1159 (by decide)
theorem dL_law_1162 : decode cL_law 1162 = .ok (.aload_n 1, 1) := dc_43 aL_law_1162
theorem dL_law_1163 : decode cL_law 1163 = .ok (.aload_n 0, 1) := dc_42 aL_law_1163
theorem dL_law_1164 : decode cL_law 1164 = .ok (.iload 4, 2) := dc_21 (a0 := 4) aL_law_1164
theorem dL_law_1166 : decode cL_law 1166 = .ok (.iconst 1, 1) := dc_4 aL_law_1166
theorem dL_law_1167 : decode cL_law 1167 = .ok (.iadd, 1) := dc_96 aL_law_1167
theorem dL_law_1168 : decode cL_law 1168 = .ok (.iaload, 1) := dc_46 aL_law_1168
theorem dL_law_1169 : decode cL_law 1169 = .ok (.aload_n 0, 1) := dc_42 aL_law_1169
theorem dL_law_1170 : decode cL_law 1170 = .ok (.iload 4, 2) := dc_21 (a0 := 4) aL_law_1170
theorem dL_law_1172 : decode cL_law 1172 = .ok (.iconst 2, 1) := dc_5 aL_law_1172
theorem dL_law_1173 : decode cL_law 1173 = .ok (.iadd, 1) := dc_96 aL_law_1173
theorem dL_law_1174 : decode cL_law 1174 = .ok (.iaload, 1) := dc_46 aL_law_1174
theorem dL_law_1175 : decode cL_law 1175 = .ok (.aload_n 0, 1) := dc_42 aL_law_1175
theorem dL_law_1176 : decode cL_law 1176 = .ok (.iload 4, 2) := dc_21 (a0 := 4) aL_law_1176
theorem dL_law_1178 : decode cL_law 1178 = .ok (.iconst 3, 1) := dc_6 aL_law_1178
theorem dL_law_1179 : decode cL_law 1179 = .ok (.iadd, 1) := dc_96 aL_law_1179
theorem dL_law_1180 : decode cL_law 1180 = .ok (.iaload, 1) := dc_46 aL_law_1180
theorem dL_law_1181 : decode cL_law 1181 = .ok (.aload_n 3, 1) := dc_45 aL_law_1181
theorem dL_law_1182 : decode cL_law 1182 = .ok (.invokestatic 197, 3) := dc_184 (a0 := 0) (b0 := 197) aL_law_1182
theorem dL_law_1185 : decode cL_law 1185 = .ok (.istore 5, 2) := dc_54 (a0 := 5) aL_law_1185
theorem dL_law_1187 : decode cL_law 1187 = .ok (.aload_n 2, 1) := dc_44 aL_law_1187
theorem dL_law_1188 : decode cL_law 1188 = .ok (.aload_n 0, 1) := dc_42 aL_law_1188
theorem dL_law_1189 : decode cL_law 1189 = .ok (.iload 4, 2) := dc_21 (a0 := 4) aL_law_1189
theorem dL_law_1191 : decode cL_law 1191 = .ok (.iconst 1, 1) := dc_4 aL_law_1191
theorem dL_law_1192 : decode cL_law 1192 = .ok (.iadd, 1) := dc_96 aL_law_1192
theorem dL_law_1193 : decode cL_law 1193 = .ok (.iaload, 1) := dc_46 aL_law_1193
theorem dL_law_1194 : decode cL_law 1194 = .ok (.aload_n 0, 1) := dc_42 aL_law_1194
theorem dL_law_1195 : decode cL_law 1195 = .ok (.iload 4, 2) := dc_21 (a0 := 4) aL_law_1195
theorem dL_law_1197 : decode cL_law 1197 = .ok (.iconst 2, 1) := dc_5 aL_law_1197
theorem dL_law_1198 : decode cL_law 1198 = .ok (.iadd, 1) := dc_96 aL_law_1198
theorem dL_law_1199 : decode cL_law 1199 = .ok (.iaload, 1) := dc_46 aL_law_1199
theorem dL_law_1200 : decode cL_law 1200 = .ok (.aload_n 0, 1) := dc_42 aL_law_1200
theorem dL_law_1201 : decode cL_law 1201 = .ok (.iload 4, 2) := dc_21 (a0 := 4) aL_law_1201
theorem dL_law_1203 : decode cL_law 1203 = .ok (.iconst 3, 1) := dc_6 aL_law_1203
theorem dL_law_1204 : decode cL_law 1204 = .ok (.iadd, 1) := dc_96 aL_law_1204
theorem dL_law_1205 : decode cL_law 1205 = .ok (.iaload, 1) := dc_46 aL_law_1205
theorem dL_law_1206 : decode cL_law 1206 = .ok (.invokevirtual 199, 3) := dc_182 (a0 := 0) (b0 := 199) aL_law_1206
theorem dL_law_1209 : decode cL_law 1209 = .ok (.istore 6, 2) := dc_54 (a0 := 6) aL_law_1209
theorem dL_law_1211 : decode cL_law 1211 = .ok (.goto 855, 3) := dc_167 (a0 := 3) (b0 := 87) aL_law_1211 (by decide)
theorem dL_law_1214 : decode cL_law 1214 = .ok (.aload_n 1, 1) := dc_43 aL_law_1214
theorem dL_law_1215 : decode cL_law 1215 = .ok (.aload_n 0, 1) := dc_42 aL_law_1215
theorem dL_law_1216 : decode cL_law 1216 = .ok (.iload 4, 2) := dc_21 (a0 := 4) aL_law_1216
theorem dL_law_1218 : decode cL_law 1218 = .ok (.iconst 1, 1) := dc_4 aL_law_1218
theorem dL_law_1219 : decode cL_law 1219 = .ok (.iadd, 1) := dc_96 aL_law_1219
theorem dL_law_1220 : decode cL_law 1220 = .ok (.iaload, 1) := dc_46 aL_law_1220
theorem dL_law_1221 : decode cL_law 1221 = .ok (.aload_n 0, 1) := dc_42 aL_law_1221
theorem dL_law_1222 : decode cL_law 1222 = .ok (.iload 4, 2) := dc_21 (a0 := 4) aL_law_1222
theorem dL_law_1224 : decode cL_law 1224 = .ok (.iconst 2, 1) := dc_5 aL_law_1224
theorem dL_law_1225 : decode cL_law 1225 = .ok (.iadd, 1) := dc_96 aL_law_1225
theorem dL_law_1226 : decode cL_law 1226 = .ok (.iaload, 1) := dc_46 aL_law_1226
theorem dL_law_1227 : decode cL_law 1227 = .ok (.aload_n 3, 1) := dc_45 aL_law_1227
theorem dL_law_1228 : decode cL_law 1228 = .ok (.invokestatic 200, 3) := dc_184 (a0 := 0) (b0 := 200) aL_law_1228
theorem dL_law_1231 : decode cL_law 1231 = .ok (.istore 5, 2) := dc_54 (a0 := 5) aL_law_1231
theorem dL_law_1233 : decode cL_law 1233 = .ok (.aload_n 2, 1) := dc_44 aL_law_1233
theorem dL_law_1234 : decode cL_law 1234 = .ok (.aload_n 0, 1) := dc_42 aL_law_1234
theorem dL_law_1235 : decode cL_law 1235 = .ok (.iload 4, 2) := dc_21 (a0 := 4) aL_law_1235
theorem dL_law_1237 : decode cL_law 1237 = .ok (.iconst 1, 1) := dc_4 aL_law_1237
theorem dL_law_1238 : decode cL_law 1238 = .ok (.iadd, 1) := dc_96 aL_law_1238
theorem dL_law_1239 : decode cL_law 1239 = .ok (.iaload, 1) := dc_46 aL_law_1239
theorem dL_law_1240 : decode cL_law 1240 = .ok (.aload_n 0, 1) := dc_42 aL_law_1240
theorem dL_law_1241 : decode cL_law 1241 = .ok (.iload 4, 2) := dc_21 (a0 := 4) aL_law_1241
theorem dL_law_1243 : decode cL_law 1243 = .ok (.iconst 2, 1) := dc_5 aL_law_1243
theorem dL_law_1244 : decode cL_law 1244 = .ok (.iadd, 1) := dc_96 aL_law_1244
theorem dL_law_1245 : decode cL_law 1245 = .ok (.iaload, 1) := dc_46 aL_law_1245
theorem dL_law_1246 : decode cL_law 1246 = .ok (.invokevirtual 202, 3) := dc_182 (a0 := 0) (b0 := 202) aL_law_1246
theorem dL_law_1249 : decode cL_law 1249 = .ok (.istore 6, 2) := dc_54 (a0 := 6) aL_law_1249
theorem dL_law_1251 : decode cL_law 1251 = .ok (.goto 815, 3) := dc_167 (a0 := 3) (b0 := 47) aL_law_1251 (by decide)
theorem dL_law_1254 : decode cL_law 1254 = .ok (.aload_n 1, 1) := dc_43 aL_law_1254
theorem dL_law_1255 : decode cL_law 1255 = .ok (.aload_n 0, 1) := dc_42 aL_law_1255
theorem dL_law_1256 : decode cL_law 1256 = .ok (.iload 4, 2) := dc_21 (a0 := 4) aL_law_1256
theorem dL_law_1258 : decode cL_law 1258 = .ok (.iconst 1, 1) := dc_4 aL_law_1258
theorem dL_law_1259 : decode cL_law 1259 = .ok (.iadd, 1) := dc_96 aL_law_1259
theorem dL_law_1260 : decode cL_law 1260 = .ok (.iaload, 1) := dc_46 aL_law_1260
theorem dL_law_1261 : decode cL_law 1261 = .ok (.aload_n 0, 1) := dc_42 aL_law_1261
theorem dL_law_1262 : decode cL_law 1262 = .ok (.iload 4, 2) := dc_21 (a0 := 4) aL_law_1262
theorem dL_law_1264 : decode cL_law 1264 = .ok (.iconst 2, 1) := dc_5 aL_law_1264
theorem dL_law_1265 : decode cL_law 1265 = .ok (.iadd, 1) := dc_96 aL_law_1265
theorem dL_law_1266 : decode cL_law 1266 = .ok (.iaload, 1) := dc_46 aL_law_1266
theorem dL_law_1267 : decode cL_law 1267 = .ok (.aload_n 0, 1) := dc_42 aL_law_1267
theorem dL_law_1268 : decode cL_law 1268 = .ok (.iload 4, 2) := dc_21 (a0 := 4) aL_law_1268
theorem dL_law_1270 : decode cL_law 1270 = .ok (.iconst 3, 1) := dc_6 aL_law_1270
theorem dL_law_1271 : decode cL_law 1271 = .ok (.iadd, 1) := dc_96 aL_law_1271
theorem dL_law_1272 : decode cL_law 1272 = .ok (.iaload, 1) := dc_46 aL_law_1272
theorem dL_law_1273 : decode cL_law 1273 = .ok (.aload_n 0, 1) := dc_42 aL_law_1273
theorem dL_law_1274 : decode cL_law 1274 = .ok (.iload 4, 2) := dc_21 (a0 := 4) aL_law_1274
theorem dL_law_1276 : decode cL_law 1276 = .ok (.iconst 4, 1) := dc_7 aL_law_1276
theorem dL_law_1277 : decode cL_law 1277 = .ok (.iadd, 1) := dc_96 aL_law_1277
theorem dL_law_1278 : decode cL_law 1278 = .ok (.iaload, 1) := dc_46 aL_law_1278
theorem dL_law_1279 : decode cL_law 1279 = .ok (.invokestatic 203, 3) := dc_184 (a0 := 0) (b0 := 203) aL_law_1279
theorem dL_law_1282 : decode cL_law 1282 = .ok (.istore 5, 2) := dc_54 (a0 := 5) aL_law_1282
theorem dL_law_1284 : decode cL_law 1284 = .ok (.aload_n 2, 1) := dc_44 aL_law_1284
theorem dL_law_1285 : decode cL_law 1285 = .ok (.aload_n 0, 1) := dc_42 aL_law_1285
theorem dL_law_1286 : decode cL_law 1286 = .ok (.iload 4, 2) := dc_21 (a0 := 4) aL_law_1286
theorem dL_law_1288 : decode cL_law 1288 = .ok (.iconst 1, 1) := dc_4 aL_law_1288
theorem dL_law_1289 : decode cL_law 1289 = .ok (.iadd, 1) := dc_96 aL_law_1289
theorem dL_law_1290 : decode cL_law 1290 = .ok (.iaload, 1) := dc_46 aL_law_1290
theorem dL_law_1291 : decode cL_law 1291 = .ok (.aload_n 0, 1) := dc_42 aL_law_1291
theorem dL_law_1292 : decode cL_law 1292 = .ok (.iload 4, 2) := dc_21 (a0 := 4) aL_law_1292
theorem dL_law_1294 : decode cL_law 1294 = .ok (.iconst 2, 1) := dc_5 aL_law_1294
theorem dL_law_1295 : decode cL_law 1295 = .ok (.iadd, 1) := dc_96 aL_law_1295
theorem dL_law_1296 : decode cL_law 1296 = .ok (.iaload, 1) := dc_46 aL_law_1296
theorem dL_law_1297 : decode cL_law 1297 = .ok (.aload_n 0, 1) := dc_42 aL_law_1297
theorem dL_law_1298 : decode cL_law 1298 = .ok (.iload 4, 2) := dc_21 (a0 := 4) aL_law_1298
theorem dL_law_1300 : decode cL_law 1300 = .ok (.iconst 3, 1) := dc_6 aL_law_1300
theorem dL_law_1301 : decode cL_law 1301 = .ok (.iadd, 1) := dc_96 aL_law_1301
theorem dL_law_1302 : decode cL_law 1302 = .ok (.iaload, 1) := dc_46 aL_law_1302
theorem dL_law_1303 : decode cL_law 1303 = .ok (.aload_n 0, 1) := dc_42 aL_law_1303
theorem dL_law_1304 : decode cL_law 1304 = .ok (.iload 4, 2) := dc_21 (a0 := 4) aL_law_1304
theorem dL_law_1306 : decode cL_law 1306 = .ok (.iconst 4, 1) := dc_7 aL_law_1306
theorem dL_law_1307 : decode cL_law 1307 = .ok (.iadd, 1) := dc_96 aL_law_1307
theorem dL_law_1308 : decode cL_law 1308 = .ok (.iaload, 1) := dc_46 aL_law_1308
theorem dL_law_1309 : decode cL_law 1309 = .ok (.invokevirtual 206, 3) := dc_182 (a0 := 0) (b0 := 206) aL_law_1309
theorem dL_law_1312 : decode cL_law 1312 = .ok (.goto 754, 3) := dc_167 (a0 := 2) (b0 := 242) aL_law_1312 (by decide)
theorem dL_law_1315 : decode cL_law 1315 = .ok (.aload_n 1, 1) := dc_43 aL_law_1315
theorem dL_law_1316 : decode cL_law 1316 = .ok (.aload_n 0, 1) := dc_42 aL_law_1316
theorem dL_law_1317 : decode cL_law 1317 = .ok (.iload 4, 2) := dc_21 (a0 := 4) aL_law_1317
theorem dL_law_1319 : decode cL_law 1319 = .ok (.iconst 1, 1) := dc_4 aL_law_1319
theorem dL_law_1320 : decode cL_law 1320 = .ok (.iadd, 1) := dc_96 aL_law_1320
theorem dL_law_1321 : decode cL_law 1321 = .ok (.iaload, 1) := dc_46 aL_law_1321
theorem dL_law_1322 : decode cL_law 1322 = .ok (.aload_n 3, 1) := dc_45 aL_law_1322
theorem dL_law_1323 : decode cL_law 1323 = .ok (.invokestatic 207, 3) := dc_184 (a0 := 0) (b0 := 207) aL_law_1323
theorem dL_law_1326 : decode cL_law 1326 = .ok (.istore 5, 2) := dc_54 (a0 := 5) aL_law_1326
theorem dL_law_1328 : decode cL_law 1328 = .ok (.aload_n 2, 1) := dc_44 aL_law_1328
theorem dL_law_1329 : decode cL_law 1329 = .ok (.aload_n 0, 1) := dc_42 aL_law_1329
theorem dL_law_1330 : decode cL_law 1330 = .ok (.iload 4, 2) := dc_21 (a0 := 4) aL_law_1330
theorem dL_law_1332 : decode cL_law 1332 = .ok (.iconst 1, 1) := dc_4 aL_law_1332
theorem dL_law_1333 : decode cL_law 1333 = .ok (.iadd, 1) := dc_96 aL_law_1333
theorem dL_law_1334 : decode cL_law 1334 = .ok (.iaload, 1) := dc_46 aL_law_1334
theorem dL_law_1335 : decode cL_law 1335 = .ok (.invokevirtual 209, 3) := dc_182 (a0 := 0) (b0 := 209) aL_law_1335
theorem dL_law_1338 : decode cL_law 1338 = .ok (.istore 6, 2) := dc_54 (a0 := 6) aL_law_1338
theorem dL_law_1340 : decode cL_law 1340 = .ok (.goto 726, 3) := dc_167 (a0 := 2) (b0 := 214) aL_law_1340 (by decide)
theorem dL_law_1343 : decode cL_law 1343 = .ok (.aload_n 1, 1) := dc_43 aL_law_1343
theorem dL_law_1344 : decode cL_law 1344 = .ok (.aload_n 0, 1) := dc_42 aL_law_1344
theorem dL_law_1345 : decode cL_law 1345 = .ok (.iload 4, 2) := dc_21 (a0 := 4) aL_law_1345
theorem dL_law_1347 : decode cL_law 1347 = .ok (.iconst 1, 1) := dc_4 aL_law_1347
theorem dL_law_1348 : decode cL_law 1348 = .ok (.iadd, 1) := dc_96 aL_law_1348
theorem dL_law_1349 : decode cL_law 1349 = .ok (.iaload, 1) := dc_46 aL_law_1349
theorem dL_law_1350 : decode cL_law 1350 = .ok (.aload_n 3, 1) := dc_45 aL_law_1350
theorem dL_law_1351 : decode cL_law 1351 = .ok (.invokestatic 210, 3) := dc_184 (a0 := 0) (b0 := 210) aL_law_1351
theorem dL_law_1354 : decode cL_law 1354 = .ok (.istore 5, 2) := dc_54 (a0 := 5) aL_law_1354
theorem dL_law_1356 : decode cL_law 1356 = .ok (.aload_n 2, 1) := dc_44 aL_law_1356
theorem dL_law_1357 : decode cL_law 1357 = .ok (.aload_n 0, 1) := dc_42 aL_law_1357
theorem dL_law_1358 : decode cL_law 1358 = .ok (.iload 4, 2) := dc_21 (a0 := 4) aL_law_1358
theorem dL_law_1360 : decode cL_law 1360 = .ok (.iconst 1, 1) := dc_4 aL_law_1360
theorem dL_law_1361 : decode cL_law 1361 = .ok (.iadd, 1) := dc_96 aL_law_1361
theorem dL_law_1362 : decode cL_law 1362 = .ok (.iaload, 1) := dc_46 aL_law_1362
theorem dL_law_1363 : decode cL_law 1363 = .ok (.invokevirtual 212, 3) := dc_182 (a0 := 0) (b0 := 212) aL_law_1363
theorem dL_law_1366 : decode cL_law 1366 = .ok (.istore 6, 2) := dc_54 (a0 := 6) aL_law_1366
theorem dL_law_1368 : decode cL_law 1368 = .ok (.goto 698, 3) := dc_167 (a0 := 2) (b0 := 186) aL_law_1368 (by decide)
theorem dL_law_1371 : decode cL_law 1371 = .ok (.aload_n 1, 1) := dc_43 aL_law_1371
theorem dL_law_1372 : decode cL_law 1372 = .ok (.invokevirtual 213, 3) := dc_182 (a0 := 0) (b0 := 213) aL_law_1372
theorem dL_law_1375 : decode cL_law 1375 = .ok (.pop, 1) := dc_87 aL_law_1375
theorem dL_law_1376 : decode cL_law 1376 = .ok (.aload_n 2, 1) := dc_44 aL_law_1376
theorem dL_law_1377 : decode cL_law 1377 = .ok (.invokevirtual 217, 3) := dc_182 (a0 := 0) (b0 := 217) aL_law_1377
theorem dL_law_1380 : decode cL_law 1380 = .ok (.pop, 1) := dc_87 aL_law_1380
theorem dL_law_1381 : decode cL_law 1381 = .ok (.goto 685, 3) := dc_167 (a0 := 2) (b0 := 173) aL_law_1381 (by decide)
theorem dL_law_1384 : decode cL_law 1384 = .ok (.aload_n 1, 1) := dc_43 aL_law_1384
theorem dL_law_1385 : decode cL_law 1385 = .ok (.invokevirtual 218, 3) := dc_182 (a0 := 0) (b0 := 218) aL_law_1385
theorem dL_law_1388 : decode cL_law 1388 = .ok (.pop, 1) := dc_87 aL_law_1388
theorem dL_law_1389 : decode cL_law 1389 = .ok (.aload_n 2, 1) := dc_44 aL_law_1389
theorem dL_law_1390 : decode cL_law 1390 = .ok (.invokevirtual 221, 3) := dc_182 (a0 := 0) (b0 := 221) aL_law_1390
theorem dL_law_1393 : decode cL_law 1393 = .ok (.pop, 1) := dc_87 aL_law_1393
theorem dL_law_1394 : decode cL_law 1394 = .ok (.goto 672, 3) := dc_167 (a0 := 2) (b0 := 160) aL_law_1394 (by decide)
theorem dL_law_1397 : decode cL_law 1397 = .ok (.aload_n 1, 1) := dc_43 aL_law_1397
theorem dL_law_1398 : decode cL_law 1398 = .ok (.aload_n 0, 1) := dc_42 aL_law_1398
theorem dL_law_1399 : decode cL_law 1399 = .ok (.iload 4, 2) := dc_21 (a0 := 4) aL_law_1399
theorem dL_law_1401 : decode cL_law 1401 = .ok (.iconst 1, 1) := dc_4 aL_law_1401
theorem dL_law_1402 : decode cL_law 1402 = .ok (.iadd, 1) := dc_96 aL_law_1402
theorem dL_law_1403 : decode cL_law 1403 = .ok (.iaload, 1) := dc_46 aL_law_1403
theorem dL_law_1404 : decode cL_law 1404 = .ok (.aload_n 0, 1) := dc_42 aL_law_1404
theorem dL_law_1405 : decode cL_law 1405 = .ok (.iload 4, 2) := dc_21 (a0 := 4) aL_law_1405
theorem dL_law_1407 : decode cL_law 1407 = .ok (.iconst 2, 1) := dc_5 aL_law_1407
theorem dL_law_1408 : decode cL_law 1408 = .ok (.iadd, 1) := dc_96 aL_law_1408
theorem dL_law_1409 : decode cL_law 1409 = .ok (.iaload, 1) := dc_46 aL_law_1409
theorem dL_law_1410 : decode cL_law 1410 = .ok (.aload_n 0, 1) := dc_42 aL_law_1410
theorem dL_law_1411 : decode cL_law 1411 = .ok (.iload 4, 2) := dc_21 (a0 := 4) aL_law_1411
theorem dL_law_1413 : decode cL_law 1413 = .ok (.iconst 3, 1) := dc_6 aL_law_1413
theorem dL_law_1414 : decode cL_law 1414 = .ok (.iadd, 1) := dc_96 aL_law_1414
theorem dL_law_1415 : decode cL_law 1415 = .ok (.iaload, 1) := dc_46 aL_law_1415
theorem dL_law_1416 : decode cL_law 1416 = .ok (.aload_n 0, 1) := dc_42 aL_law_1416
theorem dL_law_1417 : decode cL_law 1417 = .ok (.iload 4, 2) := dc_21 (a0 := 4) aL_law_1417
theorem dL_law_1419 : decode cL_law 1419 = .ok (.iconst 4, 1) := dc_7 aL_law_1419
theorem dL_law_1420 : decode cL_law 1420 = .ok (.iadd, 1) := dc_96 aL_law_1420
theorem dL_law_1421 : decode cL_law 1421 = .ok (.iaload, 1) := dc_46 aL_law_1421
theorem dL_law_1422 : decode cL_law 1422 = .ok (.aload_n 0, 1) := dc_42 aL_law_1422
theorem dL_law_1423 : decode cL_law 1423 = .ok (.iload 4, 2) := dc_21 (a0 := 4) aL_law_1423
theorem dL_law_1425 : decode cL_law 1425 = .ok (.iconst 5, 1) := dc_8 aL_law_1425
theorem dL_law_1426 : decode cL_law 1426 = .ok (.iadd, 1) := dc_96 aL_law_1426
theorem dL_law_1427 : decode cL_law 1427 = .ok (.iaload, 1) := dc_46 aL_law_1427
theorem dL_law_1428 : decode cL_law 1428 = .ok (.aload_n 3, 1) := dc_45 aL_law_1428
theorem dL_law_1429 : decode cL_law 1429 = .ok (.invokestatic 222, 3) := dc_184 (a0 := 0) (b0 := 222) aL_law_1429
theorem dL_law_1432 : decode cL_law 1432 = .ok (.istore 5, 2) := dc_54 (a0 := 5) aL_law_1432
theorem dL_law_1434 : decode cL_law 1434 = .ok (.aload_n 2, 1) := dc_44 aL_law_1434
theorem dL_law_1435 : decode cL_law 1435 = .ok (.aload_n 0, 1) := dc_42 aL_law_1435
theorem dL_law_1436 : decode cL_law 1436 = .ok (.iload 4, 2) := dc_21 (a0 := 4) aL_law_1436
theorem dL_law_1438 : decode cL_law 1438 = .ok (.iconst 1, 1) := dc_4 aL_law_1438
theorem dL_law_1439 : decode cL_law 1439 = .ok (.iadd, 1) := dc_96 aL_law_1439
theorem dL_law_1440 : decode cL_law 1440 = .ok (.iaload, 1) := dc_46 aL_law_1440
theorem dL_law_1441 : decode cL_law 1441 = .ok (.aload_n 0, 1) := dc_42 aL_law_1441
theorem dL_law_1442 : decode cL_law 1442 = .ok (.iload 4, 2) := dc_21 (a0 := 4) aL_law_1442
theorem dL_law_1444 : decode cL_law 1444 = .ok (.iconst 2, 1) := dc_5 aL_law_1444
theorem dL_law_1445 : decode cL_law 1445 = .ok (.iadd, 1) := dc_96 aL_law_1445
theorem dL_law_1446 : decode cL_law 1446 = .ok (.iaload, 1) := dc_46 aL_law_1446
theorem dL_law_1447 : decode cL_law 1447 = .ok (.aload_n 0, 1) := dc_42 aL_law_1447
theorem dL_law_1448 : decode cL_law 1448 = .ok (.iload 4, 2) := dc_21 (a0 := 4) aL_law_1448
theorem dL_law_1450 : decode cL_law 1450 = .ok (.iconst 3, 1) := dc_6 aL_law_1450
theorem dL_law_1451 : decode cL_law 1451 = .ok (.iadd, 1) := dc_96 aL_law_1451
theorem dL_law_1452 : decode cL_law 1452 = .ok (.iaload, 1) := dc_46 aL_law_1452
theorem dL_law_1453 : decode cL_law 1453 = .ok (.aload_n 0, 1) := dc_42 aL_law_1453
theorem dL_law_1454 : decode cL_law 1454 = .ok (.iload 4, 2) := dc_21 (a0 := 4) aL_law_1454
theorem dL_law_1456 : decode cL_law 1456 = .ok (.iconst 4, 1) := dc_7 aL_law_1456
theorem dL_law_1457 : decode cL_law 1457 = .ok (.iadd, 1) := dc_96 aL_law_1457
theorem dL_law_1458 : decode cL_law 1458 = .ok (.iaload, 1) := dc_46 aL_law_1458
theorem dL_law_1459 : decode cL_law 1459 = .ok (.aload_n 0, 1) := dc_42 aL_law_1459
theorem dL_law_1460 : decode cL_law 1460 = .ok (.iload 4, 2) := dc_21 (a0 := 4) aL_law_1460
theorem dL_law_1462 : decode cL_law 1462 = .ok (.iconst 5, 1) := dc_8 aL_law_1462
theorem dL_law_1463 : decode cL_law 1463 = .ok (.iadd, 1) := dc_96 aL_law_1463
theorem dL_law_1464 : decode cL_law 1464 = .ok (.iaload, 1) := dc_46 aL_law_1464
theorem dL_law_1465 : decode cL_law 1465 = .ok (.invokevirtual 224, 3) := dc_182 (a0 := 0) (b0 := 224) aL_law_1465
theorem dL_law_1468 : decode cL_law 1468 = .ok (.istore 6, 2) := dc_54 (a0 := 6) aL_law_1468
theorem dL_law_1470 : decode cL_law 1470 = .ok (.goto 596, 3) := dc_167 (a0 := 2) (b0 := 84) aL_law_1470 (by decide)
theorem dL_law_1473 : decode cL_law 1473 = .ok (.aload_n 1, 1) := dc_43 aL_law_1473
theorem dL_law_1474 : decode cL_law 1474 = .ok (.aload_n 0, 1) := dc_42 aL_law_1474
theorem dL_law_1475 : decode cL_law 1475 = .ok (.iload 4, 2) := dc_21 (a0 := 4) aL_law_1475
theorem dL_law_1477 : decode cL_law 1477 = .ok (.iconst 1, 1) := dc_4 aL_law_1477
theorem dL_law_1478 : decode cL_law 1478 = .ok (.iadd, 1) := dc_96 aL_law_1478
theorem dL_law_1479 : decode cL_law 1479 = .ok (.iaload, 1) := dc_46 aL_law_1479
theorem dL_law_1480 : decode cL_law 1480 = .ok (.aload_n 0, 1) := dc_42 aL_law_1480
theorem dL_law_1481 : decode cL_law 1481 = .ok (.iload 4, 2) := dc_21 (a0 := 4) aL_law_1481
theorem dL_law_1483 : decode cL_law 1483 = .ok (.iconst 2, 1) := dc_5 aL_law_1483
theorem dL_law_1484 : decode cL_law 1484 = .ok (.iadd, 1) := dc_96 aL_law_1484
theorem dL_law_1485 : decode cL_law 1485 = .ok (.iaload, 1) := dc_46 aL_law_1485
theorem dL_law_1486 : decode cL_law 1486 = .ok (.aload_n 0, 1) := dc_42 aL_law_1486
theorem dL_law_1487 : decode cL_law 1487 = .ok (.iload 4, 2) := dc_21 (a0 := 4) aL_law_1487
theorem dL_law_1489 : decode cL_law 1489 = .ok (.iconst 3, 1) := dc_6 aL_law_1489
theorem dL_law_1490 : decode cL_law 1490 = .ok (.iadd, 1) := dc_96 aL_law_1490
theorem dL_law_1491 : decode cL_law 1491 = .ok (.iaload, 1) := dc_46 aL_law_1491
theorem dL_law_1492 : decode cL_law 1492 = .ok (.aload_n 0, 1) := dc_42 aL_law_1492
theorem dL_law_1493 : decode cL_law 1493 = .ok (.iload 4, 2) := dc_21 (a0 := 4) aL_law_1493
theorem dL_law_1495 : decode cL_law 1495 = .ok (.iconst 4, 1) := dc_7 aL_law_1495
theorem dL_law_1496 : decode cL_law 1496 = .ok (.iadd, 1) := dc_96 aL_law_1496
theorem dL_law_1497 : decode cL_law 1497 = .ok (.iaload, 1) := dc_46 aL_law_1497
theorem dL_law_1498 : decode cL_law 1498 = .ok (.aload_n 3, 1) := dc_45 aL_law_1498
theorem dL_law_1499 : decode cL_law 1499 = .ok (.invokestatic 225, 3) := dc_184 (a0 := 0) (b0 := 225) aL_law_1499
theorem dL_law_1502 : decode cL_law 1502 = .ok (.istore 5, 2) := dc_54 (a0 := 5) aL_law_1502
theorem dL_law_1504 : decode cL_law 1504 = .ok (.aload_n 2, 1) := dc_44 aL_law_1504
theorem dL_law_1505 : decode cL_law 1505 = .ok (.aload_n 0, 1) := dc_42 aL_law_1505
theorem dL_law_1506 : decode cL_law 1506 = .ok (.iload 4, 2) := dc_21 (a0 := 4) aL_law_1506
theorem dL_law_1508 : decode cL_law 1508 = .ok (.iconst 1, 1) := dc_4 aL_law_1508
theorem dL_law_1509 : decode cL_law 1509 = .ok (.iadd, 1) := dc_96 aL_law_1509
theorem dL_law_1510 : decode cL_law 1510 = .ok (.iaload, 1) := dc_46 aL_law_1510
theorem dL_law_1511 : decode cL_law 1511 = .ok (.aload_n 0, 1) := dc_42 aL_law_1511
theorem dL_law_1512 : decode cL_law 1512 = .ok (.iload 4, 2) := dc_21 (a0 := 4) aL_law_1512
theorem dL_law_1514 : decode cL_law 1514 = .ok (.iconst 2, 1) := dc_5 aL_law_1514
theorem dL_law_1515 : decode cL_law 1515 = .ok (.iadd, 1) := dc_96 aL_law_1515
theorem dL_law_1516 : decode cL_law 1516 = .ok (.iaload, 1) := dc_46 aL_law_1516
theorem dL_law_1517 : decode cL_law 1517 = .ok (.aload_n 0, 1) := dc_42 aL_law_1517
theorem dL_law_1518 : decode cL_law 1518 = .ok (.iload 4, 2) := dc_21 (a0 := 4) aL_law_1518
theorem dL_law_1520 : decode cL_law 1520 = .ok (.iconst 3, 1) := dc_6 aL_law_1520
theorem dL_law_1521 : decode cL_law 1521 = .ok (.iadd, 1) := dc_96 aL_law_1521
theorem dL_law_1522 : decode cL_law 1522 = .ok (.iaload, 1) := dc_46 aL_law_1522
theorem dL_law_1523 : decode cL_law 1523 = .ok (.aload_n 0, 1) := dc_42 aL_law_1523
theorem dL_law_1524 : decode cL_law 1524 = .ok (.iload 4, 2) := dc_21 (a0 := 4) aL_law_1524
theorem dL_law_1526 : decode cL_law 1526 = .ok (.iconst 4, 1) := dc_7 aL_law_1526
theorem dL_law_1527 : decode cL_law 1527 = .ok (.iadd, 1) := dc_96 aL_law_1527
theorem dL_law_1528 : decode cL_law 1528 = .ok (.iaload, 1) := dc_46 aL_law_1528
theorem dL_law_1529 : decode cL_law 1529 = .ok (.invokevirtual 227, 3) := dc_182 (a0 := 0) (b0 := 227) aL_law_1529
theorem dL_law_1532 : decode cL_law 1532 = .ok (.istore 6, 2) := dc_54 (a0 := 6) aL_law_1532
theorem dL_law_1534 : decode cL_law 1534 = .ok (.goto 532, 3) := dc_167 (a0 := 2) (b0 := 20) aL_law_1534 (by decide)
theorem dL_law_1537 : decode cL_law 1537 = .ok (.aload_n 1, 1) := dc_43 aL_law_1537
theorem dL_law_1538 : decode cL_law 1538 = .ok (.aload_n 0, 1) := dc_42 aL_law_1538
theorem dL_law_1539 : decode cL_law 1539 = .ok (.iload 4, 2) := dc_21 (a0 := 4) aL_law_1539
theorem dL_law_1541 : decode cL_law 1541 = .ok (.iconst 1, 1) := dc_4 aL_law_1541
theorem dL_law_1542 : decode cL_law 1542 = .ok (.iadd, 1) := dc_96 aL_law_1542
theorem dL_law_1543 : decode cL_law 1543 = .ok (.iaload, 1) := dc_46 aL_law_1543
theorem dL_law_1544 : decode cL_law 1544 = .ok (.aload_n 0, 1) := dc_42 aL_law_1544
theorem dL_law_1545 : decode cL_law 1545 = .ok (.iload 4, 2) := dc_21 (a0 := 4) aL_law_1545
theorem dL_law_1547 : decode cL_law 1547 = .ok (.iconst 2, 1) := dc_5 aL_law_1547
theorem dL_law_1548 : decode cL_law 1548 = .ok (.iadd, 1) := dc_96 aL_law_1548
theorem dL_law_1549 : decode cL_law 1549 = .ok (.iaload, 1) := dc_46 aL_law_1549
theorem dL_law_1550 : decode cL_law 1550 = .ok (.aload_n 0, 1) := dc_42 aL_law_1550
theorem dL_law_1551 : decode cL_law 1551 = .ok (.iload 4, 2) := dc_21 (a0 := 4) aL_law_1551
theorem dL_law_1553 : decode cL_law 1553 = .ok (.iconst 3, 1) := dc_6 aL_law_1553
theorem dL_law_1554 : decode cL_law 1554 = .ok (.iadd, 1) := dc_96 aL_law_1554
theorem dL_law_1555 : decode cL_law 1555 = .ok (.iaload, 1) := dc_46 aL_law_1555
theorem dL_law_1556 : decode cL_law 1556 = .ok (.aload_n 3, 1) := dc_45 aL_law_1556
theorem dL_law_1557 : decode cL_law 1557 = .ok (.invokestatic 228, 3) := dc_184 (a0 := 0) (b0 := 228) aL_law_1557
theorem dL_law_1560 : decode cL_law 1560 = .ok (.istore 5, 2) := dc_54 (a0 := 5) aL_law_1560
theorem dL_law_1562 : decode cL_law 1562 = .ok (.aload_n 2, 1) := dc_44 aL_law_1562
theorem dL_law_1563 : decode cL_law 1563 = .ok (.aload_n 0, 1) := dc_42 aL_law_1563
theorem dL_law_1564 : decode cL_law 1564 = .ok (.iload 4, 2) := dc_21 (a0 := 4) aL_law_1564
theorem dL_law_1566 : decode cL_law 1566 = .ok (.iconst 1, 1) := dc_4 aL_law_1566
theorem dL_law_1567 : decode cL_law 1567 = .ok (.iadd, 1) := dc_96 aL_law_1567
theorem dL_law_1568 : decode cL_law 1568 = .ok (.iaload, 1) := dc_46 aL_law_1568
theorem dL_law_1569 : decode cL_law 1569 = .ok (.aload_n 0, 1) := dc_42 aL_law_1569
theorem dL_law_1570 : decode cL_law 1570 = .ok (.iload 4, 2) := dc_21 (a0 := 4) aL_law_1570
theorem dL_law_1572 : decode cL_law 1572 = .ok (.iconst 2, 1) := dc_5 aL_law_1572
theorem dL_law_1573 : decode cL_law 1573 = .ok (.iadd, 1) := dc_96 aL_law_1573
theorem dL_law_1574 : decode cL_law 1574 = .ok (.iaload, 1) := dc_46 aL_law_1574
theorem dL_law_1575 : decode cL_law 1575 = .ok (.aload_n 0, 1) := dc_42 aL_law_1575
theorem dL_law_1576 : decode cL_law 1576 = .ok (.iload 4, 2) := dc_21 (a0 := 4) aL_law_1576
theorem dL_law_1578 : decode cL_law 1578 = .ok (.iconst 3, 1) := dc_6 aL_law_1578
theorem dL_law_1579 : decode cL_law 1579 = .ok (.iadd, 1) := dc_96 aL_law_1579
theorem dL_law_1580 : decode cL_law 1580 = .ok (.iaload, 1) := dc_46 aL_law_1580
theorem dL_law_1581 : decode cL_law 1581 = .ok (.invokevirtual 230, 3) := dc_182 (a0 := 0) (b0 := 230) aL_law_1581
theorem dL_law_1584 : decode cL_law 1584 = .ok (.istore 6, 2) := dc_54 (a0 := 6) aL_law_1584
theorem dL_law_1586 : decode cL_law 1586 = .ok (.goto 480, 3) := dc_167 (a0 := 1) (b0 := 224) aL_law_1586 (by decide)
theorem dL_law_1589 : decode cL_law 1589 = .ok (.aload_n 1, 1) := dc_43 aL_law_1589
theorem dL_law_1590 : decode cL_law 1590 = .ok (.aload_n 0, 1) := dc_42 aL_law_1590
theorem dL_law_1591 : decode cL_law 1591 = .ok (.iload 4, 2) := dc_21 (a0 := 4) aL_law_1591
theorem dL_law_1593 : decode cL_law 1593 = .ok (.iconst 1, 1) := dc_4 aL_law_1593
theorem dL_law_1594 : decode cL_law 1594 = .ok (.iadd, 1) := dc_96 aL_law_1594
theorem dL_law_1595 : decode cL_law 1595 = .ok (.iaload, 1) := dc_46 aL_law_1595
theorem dL_law_1596 : decode cL_law 1596 = .ok (.aload_n 0, 1) := dc_42 aL_law_1596
theorem dL_law_1597 : decode cL_law 1597 = .ok (.iload 4, 2) := dc_21 (a0 := 4) aL_law_1597
theorem dL_law_1599 : decode cL_law 1599 = .ok (.iconst 2, 1) := dc_5 aL_law_1599
theorem dL_law_1600 : decode cL_law 1600 = .ok (.iadd, 1) := dc_96 aL_law_1600
theorem dL_law_1601 : decode cL_law 1601 = .ok (.iaload, 1) := dc_46 aL_law_1601
theorem dL_law_1602 : decode cL_law 1602 = .ok (.aload_n 3, 1) := dc_45 aL_law_1602
theorem dL_law_1603 : decode cL_law 1603 = .ok (.invokestatic 231, 3) := dc_184 (a0 := 0) (b0 := 231) aL_law_1603
theorem dL_law_1606 : decode cL_law 1606 = .ok (.istore 5, 2) := dc_54 (a0 := 5) aL_law_1606
theorem dL_law_1608 : decode cL_law 1608 = .ok (.aload_n 2, 1) := dc_44 aL_law_1608
theorem dL_law_1609 : decode cL_law 1609 = .ok (.aload_n 0, 1) := dc_42 aL_law_1609
theorem dL_law_1610 : decode cL_law 1610 = .ok (.iload 4, 2) := dc_21 (a0 := 4) aL_law_1610
theorem dL_law_1612 : decode cL_law 1612 = .ok (.iconst 1, 1) := dc_4 aL_law_1612
theorem dL_law_1613 : decode cL_law 1613 = .ok (.iadd, 1) := dc_96 aL_law_1613
theorem dL_law_1614 : decode cL_law 1614 = .ok (.iaload, 1) := dc_46 aL_law_1614
theorem dL_law_1615 : decode cL_law 1615 = .ok (.aload_n 0, 1) := dc_42 aL_law_1615
theorem dL_law_1616 : decode cL_law 1616 = .ok (.iload 4, 2) := dc_21 (a0 := 4) aL_law_1616
theorem dL_law_1618 : decode cL_law 1618 = .ok (.iconst 2, 1) := dc_5 aL_law_1618
theorem dL_law_1619 : decode cL_law 1619 = .ok (.iadd, 1) := dc_96 aL_law_1619
theorem dL_law_1620 : decode cL_law 1620 = .ok (.iaload, 1) := dc_46 aL_law_1620
theorem dL_law_1621 : decode cL_law 1621 = .ok (.invokevirtual 233, 3) := dc_182 (a0 := 0) (b0 := 233) aL_law_1621
theorem dL_law_1624 : decode cL_law 1624 = .ok (.istore 6, 2) := dc_54 (a0 := 6) aL_law_1624
theorem dL_law_1626 : decode cL_law 1626 = .ok (.goto 440, 3) := dc_167 (a0 := 1) (b0 := 184) aL_law_1626 (by decide)
theorem dL_law_1629 : decode cL_law 1629 = .ok (.aload_n 1, 1) := dc_43 aL_law_1629
theorem dL_law_1630 : decode cL_law 1630 = .ok (.aload_n 0, 1) := dc_42 aL_law_1630
theorem dL_law_1631 : decode cL_law 1631 = .ok (.iload 4, 2) := dc_21 (a0 := 4) aL_law_1631
theorem dL_law_1633 : decode cL_law 1633 = .ok (.iconst 1, 1) := dc_4 aL_law_1633
theorem dL_law_1634 : decode cL_law 1634 = .ok (.iadd, 1) := dc_96 aL_law_1634
theorem dL_law_1635 : decode cL_law 1635 = .ok (.iaload, 1) := dc_46 aL_law_1635
theorem dL_law_1636 : decode cL_law 1636 = .ok (.aload_n 0, 1) := dc_42 aL_law_1636
theorem dL_law_1637 : decode cL_law 1637 = .ok (.iload 4, 2) := dc_21 (a0 := 4) aL_law_1637
theorem dL_law_1639 : decode cL_law 1639 = .ok (.iconst 2, 1) := dc_5 aL_law_1639
theorem dL_law_1640 : decode cL_law 1640 = .ok (.iadd, 1) := dc_96 aL_law_1640
theorem dL_law_1641 : decode cL_law 1641 = .ok (.iaload, 1) := dc_46 aL_law_1641
theorem dL_law_1642 : decode cL_law 1642 = .ok (.aload_n 0, 1) := dc_42 aL_law_1642
theorem dL_law_1643 : decode cL_law 1643 = .ok (.iload 4, 2) := dc_21 (a0 := 4) aL_law_1643
theorem dL_law_1645 : decode cL_law 1645 = .ok (.iconst 3, 1) := dc_6 aL_law_1645
theorem dL_law_1646 : decode cL_law 1646 = .ok (.iadd, 1) := dc_96 aL_law_1646
theorem dL_law_1647 : decode cL_law 1647 = .ok (.iaload, 1) := dc_46 aL_law_1647
theorem dL_law_1648 : decode cL_law 1648 = .ok (.aload_n 3, 1) := dc_45 aL_law_1648
theorem dL_law_1649 : decode cL_law 1649 = .ok (.invokestatic 234, 3) := dc_184 (a0 := 0) (b0 := 234) aL_law_1649
theorem dL_law_1652 : decode cL_law 1652 = .ok (.istore 5, 2) := dc_54 (a0 := 5) aL_law_1652
theorem dL_law_1654 : decode cL_law 1654 = .ok (.aload_n 2, 1) := dc_44 aL_law_1654
theorem dL_law_1655 : decode cL_law 1655 = .ok (.aload_n 0, 1) := dc_42 aL_law_1655
theorem dL_law_1656 : decode cL_law 1656 = .ok (.iload 4, 2) := dc_21 (a0 := 4) aL_law_1656
theorem dL_law_1658 : decode cL_law 1658 = .ok (.iconst 1, 1) := dc_4 aL_law_1658
theorem dL_law_1659 : decode cL_law 1659 = .ok (.iadd, 1) := dc_96 aL_law_1659
theorem dL_law_1660 : decode cL_law 1660 = .ok (.iaload, 1) := dc_46 aL_law_1660
theorem dL_law_1661 : decode cL_law 1661 = .ok (.aload_n 0, 1) := dc_42 aL_law_1661
theorem dL_law_1662 : decode cL_law 1662 = .ok (.iload 4, 2) := dc_21 (a0 := 4) aL_law_1662
theorem dL_law_1664 : decode cL_law 1664 = .ok (.iconst 2, 1) := dc_5 aL_law_1664
theorem dL_law_1665 : decode cL_law 1665 = .ok (.iadd, 1) := dc_96 aL_law_1665
theorem dL_law_1666 : decode cL_law 1666 = .ok (.iaload, 1) := dc_46 aL_law_1666
theorem dL_law_1667 : decode cL_law 1667 = .ok (.aload_n 0, 1) := dc_42 aL_law_1667
theorem dL_law_1668 : decode cL_law 1668 = .ok (.iload 4, 2) := dc_21 (a0 := 4) aL_law_1668
theorem dL_law_1670 : decode cL_law 1670 = .ok (.iconst 3, 1) := dc_6 aL_law_1670
theorem dL_law_1671 : decode cL_law 1671 = .ok (.iadd, 1) := dc_96 aL_law_1671
theorem dL_law_1672 : decode cL_law 1672 = .ok (.iaload, 1) := dc_46 aL_law_1672
theorem dL_law_1673 : decode cL_law 1673 = .ok (.invokevirtual 236, 3) := dc_182 (a0 := 0) (b0 := 236) aL_law_1673
theorem dL_law_1676 : decode cL_law 1676 = .ok (.istore 6, 2) := dc_54 (a0 := 6) aL_law_1676
theorem dL_law_1678 : decode cL_law 1678 = .ok (.goto 388, 3) := dc_167 (a0 := 1) (b0 := 132) aL_law_1678 (by decide)
theorem dL_law_1681 : decode cL_law 1681 = .ok (.aload_n 1, 1) := dc_43 aL_law_1681
theorem dL_law_1682 : decode cL_law 1682 = .ok (.aload_n 0, 1) := dc_42 aL_law_1682
theorem dL_law_1683 : decode cL_law 1683 = .ok (.iload 4, 2) := dc_21 (a0 := 4) aL_law_1683
theorem dL_law_1685 : decode cL_law 1685 = .ok (.iconst 1, 1) := dc_4 aL_law_1685
theorem dL_law_1686 : decode cL_law 1686 = .ok (.iadd, 1) := dc_96 aL_law_1686
theorem dL_law_1687 : decode cL_law 1687 = .ok (.iaload, 1) := dc_46 aL_law_1687
theorem dL_law_1688 : decode cL_law 1688 = .ok (.aload_n 0, 1) := dc_42 aL_law_1688
theorem dL_law_1689 : decode cL_law 1689 = .ok (.iload 4, 2) := dc_21 (a0 := 4) aL_law_1689
theorem dL_law_1691 : decode cL_law 1691 = .ok (.iconst 2, 1) := dc_5 aL_law_1691
theorem dL_law_1692 : decode cL_law 1692 = .ok (.iadd, 1) := dc_96 aL_law_1692
theorem dL_law_1693 : decode cL_law 1693 = .ok (.iaload, 1) := dc_46 aL_law_1693
theorem dL_law_1694 : decode cL_law 1694 = .ok (.aload_n 3, 1) := dc_45 aL_law_1694
theorem dL_law_1695 : decode cL_law 1695 = .ok (.invokestatic 237, 3) := dc_184 (a0 := 0) (b0 := 237) aL_law_1695
theorem dL_law_1698 : decode cL_law 1698 = .ok (.istore 5, 2) := dc_54 (a0 := 5) aL_law_1698
theorem dL_law_1700 : decode cL_law 1700 = .ok (.aload_n 2, 1) := dc_44 aL_law_1700
theorem dL_law_1701 : decode cL_law 1701 = .ok (.aload_n 0, 1) := dc_42 aL_law_1701
theorem dL_law_1702 : decode cL_law 1702 = .ok (.iload 4, 2) := dc_21 (a0 := 4) aL_law_1702
theorem dL_law_1704 : decode cL_law 1704 = .ok (.iconst 1, 1) := dc_4 aL_law_1704
theorem dL_law_1705 : decode cL_law 1705 = .ok (.iadd, 1) := dc_96 aL_law_1705
theorem dL_law_1706 : decode cL_law 1706 = .ok (.iaload, 1) := dc_46 aL_law_1706
theorem dL_law_1707 : decode cL_law 1707 = .ok (.aload_n 0, 1) := dc_42 aL_law_1707
theorem dL_law_1708 : decode cL_law 1708 = .ok (.iload 4, 2) := dc_21 (a0 := 4) aL_law_1708
theorem dL_law_1710 : decode cL_law 1710 = .ok (.iconst 2, 1) := dc_5 aL_law_1710
theorem dL_law_1711 : decode cL_law 1711 = .ok (.iadd, 1) := dc_96 aL_law_1711
theorem dL_law_1712 : decode cL_law 1712 = .ok (.iaload, 1) := dc_46 aL_law_1712
theorem dL_law_1713 : decode cL_law 1713 = .ok (.invokevirtual 239, 3) := dc_182 (a0 := 0) (b0 := 239) aL_law_1713
theorem dL_law_1716 : decode cL_law 1716 = .ok (.istore 6, 2) := dc_54 (a0 := 6) aL_law_1716
theorem dL_law_1718 : decode cL_law 1718 = .ok (.goto 348, 3) := dc_167 (a0 := 1) (b0 := 92) aL_law_1718 (by decide)
theorem dL_law_1721 : decode cL_law 1721 = .ok (.aload_n 1, 1) := dc_43 aL_law_1721
theorem dL_law_1722 : decode cL_law 1722 = .ok (.aload_n 0, 1) := dc_42 aL_law_1722
theorem dL_law_1723 : decode cL_law 1723 = .ok (.iload 4, 2) := dc_21 (a0 := 4) aL_law_1723
theorem dL_law_1725 : decode cL_law 1725 = .ok (.iconst 1, 1) := dc_4 aL_law_1725
theorem dL_law_1726 : decode cL_law 1726 = .ok (.iadd, 1) := dc_96 aL_law_1726
theorem dL_law_1727 : decode cL_law 1727 = .ok (.iaload, 1) := dc_46 aL_law_1727
theorem dL_law_1728 : decode cL_law 1728 = .ok (.aload_n 0, 1) := dc_42 aL_law_1728
theorem dL_law_1729 : decode cL_law 1729 = .ok (.iload 4, 2) := dc_21 (a0 := 4) aL_law_1729
theorem dL_law_1731 : decode cL_law 1731 = .ok (.iconst 2, 1) := dc_5 aL_law_1731
theorem dL_law_1732 : decode cL_law 1732 = .ok (.iadd, 1) := dc_96 aL_law_1732
theorem dL_law_1733 : decode cL_law 1733 = .ok (.iaload, 1) := dc_46 aL_law_1733
theorem dL_law_1734 : decode cL_law 1734 = .ok (.aload_n 0, 1) := dc_42 aL_law_1734
theorem dL_law_1735 : decode cL_law 1735 = .ok (.iload 4, 2) := dc_21 (a0 := 4) aL_law_1735
theorem dL_law_1737 : decode cL_law 1737 = .ok (.iconst 3, 1) := dc_6 aL_law_1737
theorem dL_law_1738 : decode cL_law 1738 = .ok (.iadd, 1) := dc_96 aL_law_1738
theorem dL_law_1739 : decode cL_law 1739 = .ok (.iaload, 1) := dc_46 aL_law_1739
theorem dL_law_1740 : decode cL_law 1740 = .ok (.aload_n 3, 1) := dc_45 aL_law_1740
theorem dL_law_1741 : decode cL_law 1741 = .ok (.invokestatic 240, 3) := dc_184 (a0 := 0) (b0 := 240) aL_law_1741
theorem dL_law_1744 : decode cL_law 1744 = .ok (.istore 5, 2) := dc_54 (a0 := 5) aL_law_1744
theorem dL_law_1746 : decode cL_law 1746 = .ok (.aload_n 2, 1) := dc_44 aL_law_1746
theorem dL_law_1747 : decode cL_law 1747 = .ok (.aload_n 0, 1) := dc_42 aL_law_1747
theorem dL_law_1748 : decode cL_law 1748 = .ok (.iload 4, 2) := dc_21 (a0 := 4) aL_law_1748
theorem dL_law_1750 : decode cL_law 1750 = .ok (.iconst 1, 1) := dc_4 aL_law_1750
theorem dL_law_1751 : decode cL_law 1751 = .ok (.iadd, 1) := dc_96 aL_law_1751
theorem dL_law_1752 : decode cL_law 1752 = .ok (.iaload, 1) := dc_46 aL_law_1752
theorem dL_law_1753 : decode cL_law 1753 = .ok (.aload_n 0, 1) := dc_42 aL_law_1753
theorem dL_law_1754 : decode cL_law 1754 = .ok (.iload 4, 2) := dc_21 (a0 := 4) aL_law_1754
theorem dL_law_1756 : decode cL_law 1756 = .ok (.iconst 2, 1) := dc_5 aL_law_1756
theorem dL_law_1757 : decode cL_law 1757 = .ok (.iadd, 1) := dc_96 aL_law_1757
theorem dL_law_1758 : decode cL_law 1758 = .ok (.iaload, 1) := dc_46 aL_law_1758
theorem dL_law_1759 : decode cL_law 1759 = .ok (.aload_n 0, 1) := dc_42 aL_law_1759
theorem dL_law_1760 : decode cL_law 1760 = .ok (.iload 4, 2) := dc_21 (a0 := 4) aL_law_1760
theorem dL_law_1762 : decode cL_law 1762 = .ok (.iconst 3, 1) := dc_6 aL_law_1762
theorem dL_law_1763 : decode cL_law 1763 = .ok (.iadd, 1) := dc_96 aL_law_1763
theorem dL_law_1764 : decode cL_law 1764 = .ok (.iaload, 1) := dc_46 aL_law_1764
theorem dL_law_1765 : decode cL_law 1765 = .ok (.invokevirtual 242, 3) := dc_182 (a0 := 0) (b0 := 242) aL_law_1765
theorem dL_law_1768 : decode cL_law 1768 = .ok (.istore 6, 2) := dc_54 (a0 := 6) aL_law_1768
theorem dL_law_1770 : decode cL_law 1770 = .ok (.goto 296, 3) := dc_167 (a0 := 1) (b0 := 40) aL_law_1770 (by decide)
theorem dL_law_1773 : decode cL_law 1773 = .ok (.aload_n 1, 1) := dc_43 aL_law_1773
theorem dL_law_1774 : decode cL_law 1774 = .ok (.aload_n 0, 1) := dc_42 aL_law_1774
theorem dL_law_1775 : decode cL_law 1775 = .ok (.iload 4, 2) := dc_21 (a0 := 4) aL_law_1775
theorem dL_law_1777 : decode cL_law 1777 = .ok (.iconst 1, 1) := dc_4 aL_law_1777
theorem dL_law_1778 : decode cL_law 1778 = .ok (.iadd, 1) := dc_96 aL_law_1778
theorem dL_law_1779 : decode cL_law 1779 = .ok (.iaload, 1) := dc_46 aL_law_1779
theorem dL_law_1780 : decode cL_law 1780 = .ok (.aload_n 0, 1) := dc_42 aL_law_1780
theorem dL_law_1781 : decode cL_law 1781 = .ok (.iload 4, 2) := dc_21 (a0 := 4) aL_law_1781
theorem dL_law_1783 : decode cL_law 1783 = .ok (.iconst 2, 1) := dc_5 aL_law_1783
theorem dL_law_1784 : decode cL_law 1784 = .ok (.iadd, 1) := dc_96 aL_law_1784
theorem dL_law_1785 : decode cL_law 1785 = .ok (.iaload, 1) := dc_46 aL_law_1785
theorem dL_law_1786 : decode cL_law 1786 = .ok (.aload_n 0, 1) := dc_42 aL_law_1786
theorem dL_law_1787 : decode cL_law 1787 = .ok (.iload 4, 2) := dc_21 (a0 := 4) aL_law_1787
theorem dL_law_1789 : decode cL_law 1789 = .ok (.iconst 3, 1) := dc_6 aL_law_1789
theorem dL_law_1790 : decode cL_law 1790 = .ok (.iadd, 1) := dc_96 aL_law_1790
theorem dL_law_1791 : decode cL_law 1791 = .ok (.iaload, 1) := dc_46 aL_law_1791
theorem dL_law_1792 : decode cL_law 1792 = .ok (.aload_n 3, 1) := dc_45 aL_law_1792
theorem dL_law_1793 : decode cL_law 1793 = .ok (.invokestatic 243, 3) := dc_184 (a0 := 0) (b0 := 243) aL_law_1793
theorem dL_law_1796 : decode cL_law 1796 = .ok (.istore 5, 2) := dc_54 (a0 := 5) aL_law_1796
theorem dL_law_1798 : decode cL_law 1798 = .ok (.aload_n 2, 1) := dc_44 aL_law_1798
theorem dL_law_1799 : decode cL_law 1799 = .ok (.aload_n 0, 1) := dc_42 aL_law_1799
theorem dL_law_1800 : decode cL_law 1800 = .ok (.iload 4, 2) := dc_21 (a0 := 4) aL_law_1800
theorem dL_law_1802 : decode cL_law 1802 = .ok (.iconst 1, 1) := dc_4 aL_law_1802
theorem dL_law_1803 : decode cL_law 1803 = .ok (.iadd, 1) := dc_96 aL_law_1803
theorem dL_law_1804 : decode cL_law 1804 = .ok (.iaload, 1) := dc_46 aL_law_1804
theorem dL_law_1805 : decode cL_law 1805 = .ok (.aload_n 0, 1) := dc_42 aL_law_1805
theorem dL_law_1806 : decode cL_law 1806 = .ok (.iload 4, 2) := dc_21 (a0 := 4) aL_law_1806
theorem dL_law_1808 : decode cL_law 1808 = .ok (.iconst 2, 1) := dc_5 aL_law_1808
theorem dL_law_1809 : decode cL_law 1809 = .ok (.iadd, 1) := dc_96 aL_law_1809
theorem dL_law_1810 : decode cL_law 1810 = .ok (.iaload, 1) := dc_46 aL_law_1810
theorem dL_law_1811 : decode cL_law 1811 = .ok (.aload_n 0, 1) := dc_42 aL_law_1811
theorem dL_law_1812 : decode cL_law 1812 = .ok (.iload 4, 2) := dc_21 (a0 := 4) aL_law_1812
theorem dL_law_1814 : decode cL_law 1814 = .ok (.iconst 3, 1) := dc_6 aL_law_1814
theorem dL_law_1815 : decode cL_law 1815 = .ok (.iadd, 1) := dc_96 aL_law_1815
theorem dL_law_1816 : decode cL_law 1816 = .ok (.iaload, 1) := dc_46 aL_law_1816
theorem dL_law_1817 : decode cL_law 1817 = .ok (.invokevirtual 245, 3) := dc_182 (a0 := 0) (b0 := 245) aL_law_1817
theorem dL_law_1820 : decode cL_law 1820 = .ok (.istore 6, 2) := dc_54 (a0 := 6) aL_law_1820
theorem dL_law_1822 : decode cL_law 1822 = .ok (.goto 244, 3) := dc_167 (a0 := 0) (b0 := 244) aL_law_1822 (by decide)
theorem dL_law_1825 : decode cL_law 1825 = .ok (.aload_n 1, 1) := dc_43 aL_law_1825
theorem dL_law_1826 : decode cL_law 1826 = .ok (.aload_n 0, 1) := dc_42 aL_law_1826
theorem dL_law_1827 : decode cL_law 1827 = .ok (.iload 4, 2) := dc_21 (a0 := 4) aL_law_1827
theorem dL_law_1829 : decode cL_law 1829 = .ok (.iconst 1, 1) := dc_4 aL_law_1829
theorem dL_law_1830 : decode cL_law 1830 = .ok (.iadd, 1) := dc_96 aL_law_1830
theorem dL_law_1831 : decode cL_law 1831 = .ok (.iaload, 1) := dc_46 aL_law_1831
theorem dL_law_1832 : decode cL_law 1832 = .ok (.aload_n 0, 1) := dc_42 aL_law_1832
theorem dL_law_1833 : decode cL_law 1833 = .ok (.iload 4, 2) := dc_21 (a0 := 4) aL_law_1833
theorem dL_law_1835 : decode cL_law 1835 = .ok (.iconst 2, 1) := dc_5 aL_law_1835
theorem dL_law_1836 : decode cL_law 1836 = .ok (.iadd, 1) := dc_96 aL_law_1836
theorem dL_law_1837 : decode cL_law 1837 = .ok (.iaload, 1) := dc_46 aL_law_1837
theorem dL_law_1838 : decode cL_law 1838 = .ok (.aload_n 3, 1) := dc_45 aL_law_1838
theorem dL_law_1839 : decode cL_law 1839 = .ok (.invokestatic 246, 3) := dc_184 (a0 := 0) (b0 := 246) aL_law_1839
theorem dL_law_1842 : decode cL_law 1842 = .ok (.istore 5, 2) := dc_54 (a0 := 5) aL_law_1842
theorem dL_law_1844 : decode cL_law 1844 = .ok (.aload_n 2, 1) := dc_44 aL_law_1844
theorem dL_law_1845 : decode cL_law 1845 = .ok (.aload_n 0, 1) := dc_42 aL_law_1845
theorem dL_law_1846 : decode cL_law 1846 = .ok (.iload 4, 2) := dc_21 (a0 := 4) aL_law_1846
theorem dL_law_1848 : decode cL_law 1848 = .ok (.iconst 1, 1) := dc_4 aL_law_1848
theorem dL_law_1849 : decode cL_law 1849 = .ok (.iadd, 1) := dc_96 aL_law_1849
theorem dL_law_1850 : decode cL_law 1850 = .ok (.iaload, 1) := dc_46 aL_law_1850
theorem dL_law_1851 : decode cL_law 1851 = .ok (.aload_n 0, 1) := dc_42 aL_law_1851
theorem dL_law_1852 : decode cL_law 1852 = .ok (.iload 4, 2) := dc_21 (a0 := 4) aL_law_1852
theorem dL_law_1854 : decode cL_law 1854 = .ok (.iconst 2, 1) := dc_5 aL_law_1854
theorem dL_law_1855 : decode cL_law 1855 = .ok (.iadd, 1) := dc_96 aL_law_1855
theorem dL_law_1856 : decode cL_law 1856 = .ok (.iaload, 1) := dc_46 aL_law_1856
theorem dL_law_1857 : decode cL_law 1857 = .ok (.invokevirtual 248, 3) := dc_182 (a0 := 0) (b0 := 248) aL_law_1857
theorem dL_law_1860 : decode cL_law 1860 = .ok (.istore 6, 2) := dc_54 (a0 := 6) aL_law_1860
theorem dL_law_1862 : decode cL_law 1862 = .ok (.goto 204, 3) := dc_167 (a0 := 0) (b0 := 204) aL_law_1862 (by decide)
theorem dL_law_1865 : decode cL_law 1865 = .ok (.aload_n 1, 1) := dc_43 aL_law_1865
theorem dL_law_1866 : decode cL_law 1866 = .ok (.invokevirtual 249, 3) := dc_182 (a0 := 0) (b0 := 249) aL_law_1866
theorem dL_law_1869 : decode cL_law 1869 = .ok (.pop, 1) := dc_87 aL_law_1869
theorem dL_law_1870 : decode cL_law 1870 = .ok (.aload_n 2, 1) := dc_44 aL_law_1870
theorem dL_law_1871 : decode cL_law 1871 = .ok (.invokevirtual 252, 3) := dc_182 (a0 := 0) (b0 := 252) aL_law_1871
theorem dL_law_1874 : decode cL_law 1874 = .ok (.pop, 1) := dc_87 aL_law_1874
theorem dL_law_1875 : decode cL_law 1875 = .ok (.goto 191, 3) := dc_167 (a0 := 0) (b0 := 191) aL_law_1875 (by decide)
theorem dL_law_1878 : decode cL_law 1878 = .ok (.aload_n 1, 1) := dc_43 aL_law_1878
theorem dL_law_1879 : decode cL_law 1879 = .ok (.aload_n 0, 1) := dc_42 aL_law_1879
theorem dL_law_1880 : decode cL_law 1880 = .ok (.iload 4, 2) := dc_21 (a0 := 4) aL_law_1880
theorem dL_law_1882 : decode cL_law 1882 = .ok (.iconst 1, 1) := dc_4 aL_law_1882
theorem dL_law_1883 : decode cL_law 1883 = .ok (.iadd, 1) := dc_96 aL_law_1883
theorem dL_law_1884 : decode cL_law 1884 = .ok (.iaload, 1) := dc_46 aL_law_1884
theorem dL_law_1885 : decode cL_law 1885 = .ok (.aload_n 3, 1) := dc_45 aL_law_1885
theorem dL_law_1886 : decode cL_law 1886 = .ok (.invokestatic 253, 3) := dc_184 (a0 := 0) (b0 := 253) aL_law_1886
theorem dL_law_1889 : decode cL_law 1889 = .ok (.istore 5, 2) := dc_54 (a0 := 5) aL_law_1889
theorem dL_law_1891 : decode cL_law 1891 = .ok (.aload_n 2, 1) := dc_44 aL_law_1891
theorem dL_law_1892 : decode cL_law 1892 = .ok (.aload_n 0, 1) := dc_42 aL_law_1892
theorem dL_law_1893 : decode cL_law 1893 = .ok (.iload 4, 2) := dc_21 (a0 := 4) aL_law_1893
theorem dL_law_1895 : decode cL_law 1895 = .ok (.iconst 1, 1) := dc_4 aL_law_1895
theorem dL_law_1896 : decode cL_law 1896 = .ok (.iadd, 1) := dc_96 aL_law_1896
theorem dL_law_1897 : decode cL_law 1897 = .ok (.iaload, 1) := dc_46 aL_law_1897
theorem dL_law_1898 : decode cL_law 1898 = .ok (.invokevirtual 255, 3) := dc_182 (a0 := 0) (b0 := 255) aL_law_1898
theorem dL_law_1901 : decode cL_law 1901 = .ok (.istore 6, 2) := dc_54 (a0 := 6) aL_law_1901
theorem dL_law_1903 : decode cL_law 1903 = .ok (.goto 163, 3) := dc_167 (a0 := 0) (b0 := 163) aL_law_1903 (by decide)
theorem dL_law_1906 : decode cL_law 1906 = .ok (.aload_n 1, 1) := dc_43 aL_law_1906
theorem dL_law_1907 : decode cL_law 1907 = .ok (.aload_n 0, 1) := dc_42 aL_law_1907
theorem dL_law_1908 : decode cL_law 1908 = .ok (.iload 4, 2) := dc_21 (a0 := 4) aL_law_1908
theorem dL_law_1910 : decode cL_law 1910 = .ok (.iconst 1, 1) := dc_4 aL_law_1910
theorem dL_law_1911 : decode cL_law 1911 = .ok (.iadd, 1) := dc_96 aL_law_1911
theorem dL_law_1912 : decode cL_law 1912 = .ok (.iaload, 1) := dc_46 aL_law_1912
theorem dL_law_1913 : decode cL_law 1913 = .ok (.aload_n 0, 1) := dc_42 aL_law_1913
theorem dL_law_1914 : decode cL_law 1914 = .ok (.iload 4, 2) := dc_21 (a0 := 4) aL_law_1914
theorem dL_law_1916 : decode cL_law 1916 = .ok (.iconst 2, 1) := dc_5 aL_law_1916
theorem dL_law_1917 : decode cL_law 1917 = .ok (.iadd, 1) := dc_96 aL_law_1917
theorem dL_law_1918 : decode cL_law 1918 = .ok (.iaload, 1) := dc_46 aL_law_1918
theorem dL_law_1919 : decode cL_law 1919 = .ok (.aload_n 0, 1) := dc_42 aL_law_1919
theorem dL_law_1920 : decode cL_law 1920 = .ok (.iload 4, 2) := dc_21 (a0 := 4) aL_law_1920
theorem dL_law_1922 : decode cL_law 1922 = .ok (.iconst 3, 1) := dc_6 aL_law_1922
theorem dL_law_1923 : decode cL_law 1923 = .ok (.iadd, 1) := dc_96 aL_law_1923
theorem dL_law_1924 : decode cL_law 1924 = .ok (.iaload, 1) := dc_46 aL_law_1924
theorem dL_law_1925 : decode cL_law 1925 = .ok (.aload_n 3, 1) := dc_45 aL_law_1925
theorem dL_law_1926 : decode cL_law 1926 = .ok (.invokestatic 256, 3) := dc_184 (a0 := 1) (b0 := 0) aL_law_1926
theorem dL_law_1929 : decode cL_law 1929 = .ok (.istore 5, 2) := dc_54 (a0 := 5) aL_law_1929
theorem dL_law_1931 : decode cL_law 1931 = .ok (.aload_n 2, 1) := dc_44 aL_law_1931
theorem dL_law_1932 : decode cL_law 1932 = .ok (.aload_n 0, 1) := dc_42 aL_law_1932
theorem dL_law_1933 : decode cL_law 1933 = .ok (.iload 4, 2) := dc_21 (a0 := 4) aL_law_1933
theorem dL_law_1935 : decode cL_law 1935 = .ok (.iconst 1, 1) := dc_4 aL_law_1935
theorem dL_law_1936 : decode cL_law 1936 = .ok (.iadd, 1) := dc_96 aL_law_1936
theorem dL_law_1937 : decode cL_law 1937 = .ok (.iaload, 1) := dc_46 aL_law_1937
theorem dL_law_1938 : decode cL_law 1938 = .ok (.aload_n 0, 1) := dc_42 aL_law_1938
theorem dL_law_1939 : decode cL_law 1939 = .ok (.iload 4, 2) := dc_21 (a0 := 4) aL_law_1939
theorem dL_law_1941 : decode cL_law 1941 = .ok (.iconst 2, 1) := dc_5 aL_law_1941
theorem dL_law_1942 : decode cL_law 1942 = .ok (.iadd, 1) := dc_96 aL_law_1942
theorem dL_law_1943 : decode cL_law 1943 = .ok (.iaload, 1) := dc_46 aL_law_1943
theorem dL_law_1944 : decode cL_law 1944 = .ok (.aload_n 0, 1) := dc_42 aL_law_1944
theorem dL_law_1945 : decode cL_law 1945 = .ok (.iload 4, 2) := dc_21 (a0 := 4) aL_law_1945
theorem dL_law_1947 : decode cL_law 1947 = .ok (.iconst 3, 1) := dc_6 aL_law_1947
theorem dL_law_1948 : decode cL_law 1948 = .ok (.iadd, 1) := dc_96 aL_law_1948
theorem dL_law_1949 : decode cL_law 1949 = .ok (.iaload, 1) := dc_46 aL_law_1949
theorem dL_law_1950 : decode cL_law 1950 = .ok (.invokevirtual 258, 3) := dc_182 (a0 := 1) (b0 := 2) aL_law_1950
theorem dL_law_1953 : decode cL_law 1953 = .ok (.istore 6, 2) := dc_54 (a0 := 6) aL_law_1953
theorem dL_law_1955 : decode cL_law 1955 = .ok (.goto 111, 3) := dc_167 (a0 := 0) (b0 := 111) aL_law_1955 (by decide)
theorem dL_law_1958 : decode cL_law 1958 = .ok (.aload_n 1, 1) := dc_43 aL_law_1958
theorem dL_law_1959 : decode cL_law 1959 = .ok (.aload_n 0, 1) := dc_42 aL_law_1959
theorem dL_law_1960 : decode cL_law 1960 = .ok (.iload 4, 2) := dc_21 (a0 := 4) aL_law_1960
theorem dL_law_1962 : decode cL_law 1962 = .ok (.iconst 1, 1) := dc_4 aL_law_1962
theorem dL_law_1963 : decode cL_law 1963 = .ok (.iadd, 1) := dc_96 aL_law_1963
theorem dL_law_1964 : decode cL_law 1964 = .ok (.iaload, 1) := dc_46 aL_law_1964
theorem dL_law_1965 : decode cL_law 1965 = .ok (.aload_n 0, 1) := dc_42 aL_law_1965
theorem dL_law_1966 : decode cL_law 1966 = .ok (.iload 4, 2) := dc_21 (a0 := 4) aL_law_1966
theorem dL_law_1968 : decode cL_law 1968 = .ok (.iconst 2, 1) := dc_5 aL_law_1968
theorem dL_law_1969 : decode cL_law 1969 = .ok (.iadd, 1) := dc_96 aL_law_1969
theorem dL_law_1970 : decode cL_law 1970 = .ok (.iaload, 1) := dc_46 aL_law_1970
theorem dL_law_1971 : decode cL_law 1971 = .ok (.aload_n 3, 1) := dc_45 aL_law_1971
theorem dL_law_1972 : decode cL_law 1972 = .ok (.invokestatic 259, 3) := dc_184 (a0 := 1) (b0 := 3) aL_law_1972
theorem dL_law_1975 : decode cL_law 1975 = .ok (.istore 5, 2) := dc_54 (a0 := 5) aL_law_1975
theorem dL_law_1977 : decode cL_law 1977 = .ok (.aload_n 2, 1) := dc_44 aL_law_1977
theorem dL_law_1978 : decode cL_law 1978 = .ok (.aload_n 0, 1) := dc_42 aL_law_1978
theorem dL_law_1979 : decode cL_law 1979 = .ok (.iload 4, 2) := dc_21 (a0 := 4) aL_law_1979
theorem dL_law_1981 : decode cL_law 1981 = .ok (.iconst 1, 1) := dc_4 aL_law_1981
theorem dL_law_1982 : decode cL_law 1982 = .ok (.iadd, 1) := dc_96 aL_law_1982
theorem dL_law_1983 : decode cL_law 1983 = .ok (.iaload, 1) := dc_46 aL_law_1983
theorem dL_law_1984 : decode cL_law 1984 = .ok (.aload_n 0, 1) := dc_42 aL_law_1984
theorem dL_law_1985 : decode cL_law 1985 = .ok (.iload 4, 2) := dc_21 (a0 := 4) aL_law_1985
theorem dL_law_1987 : decode cL_law 1987 = .ok (.iconst 2, 1) := dc_5 aL_law_1987
theorem dL_law_1988 : decode cL_law 1988 = .ok (.iadd, 1) := dc_96 aL_law_1988
theorem dL_law_1989 : decode cL_law 1989 = .ok (.iaload, 1) := dc_46 aL_law_1989
theorem dL_law_1990 : decode cL_law 1990 = .ok (.invokevirtual 261, 3) := dc_182 (a0 := 1) (b0 := 5) aL_law_1990
theorem dL_law_1993 : decode cL_law 1993 = .ok (.istore 6, 2) := dc_54 (a0 := 6) aL_law_1993
theorem dL_law_1995 : decode cL_law 1995 = .ok (.goto 71, 3) := dc_167 (a0 := 0) (b0 := 71) aL_law_1995 (by decide)
theorem dL_law_1998 : decode cL_law 1998 = .ok (.aload_n 1, 1) := dc_43 aL_law_1998
theorem dL_law_1999 : decode cL_law 1999 = .ok (.aload_n 0, 1) := dc_42 aL_law_1999
theorem dL_law_2000 : decode cL_law 2000 = .ok (.iload 4, 2) := dc_21 (a0 := 4) aL_law_2000
theorem dL_law_2002 : decode cL_law 2002 = .ok (.iconst 1, 1) := dc_4 aL_law_2002
theorem dL_law_2003 : decode cL_law 2003 = .ok (.iadd, 1) := dc_96 aL_law_2003
theorem dL_law_2004 : decode cL_law 2004 = .ok (.iaload, 1) := dc_46 aL_law_2004
theorem dL_law_2005 : decode cL_law 2005 = .ok (.aload_n 3, 1) := dc_45 aL_law_2005
theorem dL_law_2006 : decode cL_law 2006 = .ok (.invokestatic 262, 3) := dc_184 (a0 := 1) (b0 := 6) aL_law_2006
theorem dL_law_2009 : decode cL_law 2009 = .ok (.istore 5, 2) := dc_54 (a0 := 5) aL_law_2009
theorem dL_law_2011 : decode cL_law 2011 = .ok (.aload_n 2, 1) := dc_44 aL_law_2011
theorem dL_law_2012 : decode cL_law 2012 = .ok (.aload_n 0, 1) := dc_42 aL_law_2012
theorem dL_law_2013 : decode cL_law 2013 = .ok (.iload 4, 2) := dc_21 (a0 := 4) aL_law_2013
theorem dL_law_2015 : decode cL_law 2015 = .ok (.iconst 1, 1) := dc_4 aL_law_2015
theorem dL_law_2016 : decode cL_law 2016 = .ok (.iadd, 1) := dc_96 aL_law_2016
theorem dL_law_2017 : decode cL_law 2017 = .ok (.iaload, 1) := dc_46 aL_law_2017
theorem dL_law_2018 : decode cL_law 2018 = .ok (.invokevirtual 264, 3) := dc_182 (a0 := 1) (b0 := 8) aL_law_2018
theorem dL_law_2021 : decode cL_law 2021 = .ok (.istore 6, 2) := dc_54 (a0 := 6) aL_law_2021
theorem dL_law_2023 : decode cL_law 2023 = .ok (.goto 43, 3) := dc_167 (a0 := 0) (b0 := 43) aL_law_2023 (by decide)
theorem dL_law_2026 : decode cL_law 2026 = .ok (.aload_n 1, 1) := dc_43 aL_law_2026
theorem dL_law_2027 : decode cL_law 2027 = .ok (.aload_n 0, 1) := dc_42 aL_law_2027
theorem dL_law_2028 : decode cL_law 2028 = .ok (.iload 4, 2) := dc_21 (a0 := 4) aL_law_2028
theorem dL_law_2030 : decode cL_law 2030 = .ok (.iconst 1, 1) := dc_4 aL_law_2030
theorem dL_law_2031 : decode cL_law 2031 = .ok (.iadd, 1) := dc_96 aL_law_2031
theorem dL_law_2032 : decode cL_law 2032 = .ok (.iaload, 1) := dc_46 aL_law_2032
theorem dL_law_2033 : decode cL_law 2033 = .ok (.aload_n 0, 1) := dc_42 aL_law_2033
theorem dL_law_2034 : decode cL_law 2034 = .ok (.iload 4, 2) := dc_21 (a0 := 4) aL_law_2034
theorem dL_law_2036 : decode cL_law 2036 = .ok (.iconst 2, 1) := dc_5 aL_law_2036
theorem dL_law_2037 : decode cL_law 2037 = .ok (.iadd, 1) := dc_96 aL_law_2037
theorem dL_law_2038 : decode cL_law 2038 = .ok (.iaload, 1) := dc_46 aL_law_2038
theorem dL_law_2039 : decode cL_law 2039 = .ok (.aload_n 3, 1) := dc_45 aL_law_2039
theorem dL_law_2040 : decode cL_law 2040 = .ok (.invokestatic 265, 3) := dc_184 (a0 := 1) (b0 := 9) aL_law_2040
theorem dL_law_2043 : decode cL_law 2043 = .ok (.istore 5, 2) := dc_54 (a0 := 5) aL_law_2043
theorem dL_law_2045 : decode cL_law 2045 = .ok (.aload_n 2, 1) := dc_44 aL_law_2045
theorem dL_law_2046 : decode cL_law 2046 = .ok (.aload_n 0, 1) := dc_42 aL_law_2046
theorem dL_law_2047 : decode cL_law 2047 = .ok (.iload 4, 2) := dc_21 (a0 := 4) aL_law_2047
theorem dL_law_2049 : decode cL_law 2049 = .ok (.iconst 1, 1) := dc_4 aL_law_2049
theorem dL_law_2050 : decode cL_law 2050 = .ok (.iadd, 1) := dc_96 aL_law_2050
theorem dL_law_2051 : decode cL_law 2051 = .ok (.iaload, 1) := dc_46 aL_law_2051
theorem dL_law_2052 : decode cL_law 2052 = .ok (.aload_n 0, 1) := dc_42 aL_law_2052
theorem dL_law_2053 : decode cL_law 2053 = .ok (.iload 4, 2) := dc_21 (a0 := 4) aL_law_2053
theorem dL_law_2055 : decode cL_law 2055 = .ok (.iconst 2, 1) := dc_5 aL_law_2055
theorem dL_law_2056 : decode cL_law 2056 = .ok (.iadd, 1) := dc_96 aL_law_2056
theorem dL_law_2057 : decode cL_law 2057 = .ok (.iaload, 1) := dc_46 aL_law_2057
theorem dL_law_2058 : decode cL_law 2058 = .ok (.invokevirtual 267, 3) := dc_182 (a0 := 1) (b0 := 11) aL_law_2058
theorem dL_law_2061 : decode cL_law 2061 = .ok (.istore 6, 2) := dc_54 (a0 := 6) aL_law_2061
theorem dL_law_2063 : decode cL_law 2063 = .ok (.goto 3, 3) := dc_167 (a0 := 0) (b0 := 3) aL_law_2063 (by decide)
theorem dL_law_2066 : decode cL_law 2066 = .ok (.iinc 4 6, 3) := dc_132 (a0 := 4) (a1 := 6) aL_law_2066 (by decide)
theorem dL_law_2069 : decode cL_law 2069 = .ok (.goto (-2046), 3) := dc_167 (a0 := 248) (b0 := 2) aL_law_2069 (by decide)
theorem dL_law_2072 : decode cL_law 2072 = .ok (.iconst 1, 1) := dc_4 aL_law_2072
theorem dL_law_2073 : decode cL_law 2073 = .ok (.ireturn, 1) := dc_172 aL_law_2073
